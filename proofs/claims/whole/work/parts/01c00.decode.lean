theorem dX0_init_0 : decode cX0_init 0 = .ok (.aload_n 0, 1) := by decide +kernel
theorem dX0_init_1 : decode cX0_init 1 = .ok (.invokespecial 3, 3) := by decide +kernel
theorem dX0_init_4 : decode cX0_init 4 = .ok (.aload_n 0, 1) := by decide +kernel
theorem dX0_init_5 : decode cX0_init 5 = .ok (.bipush 20, 2) := by decide +kernel
theorem dX0_init_7 : decode cX0_init 7 = .ok (.newarray .int, 2) := by decide +kernel
theorem dX0_init_9 : decode cX0_init 9 = .ok (.putfield 9, 3) := by decide +kernel
theorem dX0_init_12 : decode cX0_init 12 = .ok (.aload_n 0, 1) := by decide +kernel
theorem dX0_init_13 : decode cX0_init 13 = .ok (.bipush 20, 2) := by decide +kernel
theorem dX0_init_15 : decode cX0_init 15 = .ok (.newarray .int, 2) := by decide +kernel
theorem dX0_init_17 : decode cX0_init 17 = .ok (.putfield 15, 3) := by decide +kernel
theorem dX0_init_20 : decode cX0_init 20 = .ok (.return_, 1) := by decide +kernel
theorem dX0_add_0 : decode cX0_add 0 = .ok (.aload_n 0, 1) := by decide +kernel
theorem dX0_add_1 : decode cX0_add 1 = .ok (.getfield 18, 3) := by decide +kernel
theorem dX0_add_4 : decode cX0_add 4 = .ok (.bipush 20, 2) := by decide +kernel
theorem dX0_add_6 : decode cX0_add 6 = .ok (.if_icmp .lt 5, 3) := by decide +kernel
theorem dX0_add_9 : decode cX0_add 9 = .ok (.iconst 0, 1) := by decide +kernel
theorem dX0_add_10 : decode cX0_add 10 = .ok (.ireturn, 1) := by decide +kernel
theorem dX0_add_11 : decode cX0_add 11 = .ok (.aload_n 0, 1) := by decide +kernel
theorem dX0_add_12 : decode cX0_add 12 = .ok (.getfield 9, 3) := by decide +kernel
theorem dX0_add_15 : decode cX0_add 15 = .ok (.aload_n 0, 1) := by decide +kernel
theorem dX0_add_16 : decode cX0_add 16 = .ok (.getfield 18, 3) := by decide +kernel
theorem dX0_add_19 : decode cX0_add 19 = .ok (.iload_n 1, 1) := by decide +kernel
theorem dX0_add_20 : decode cX0_add 20 = .ok (.iastore, 1) := by decide +kernel
theorem dX0_add_21 : decode cX0_add 21 = .ok (.aload_n 0, 1) := by decide +kernel
theorem dX0_add_22 : decode cX0_add 22 = .ok (.getfield 15, 3) := by decide +kernel
theorem dX0_add_25 : decode cX0_add 25 = .ok (.aload_n 0, 1) := by decide +kernel
theorem dX0_add_26 : decode cX0_add 26 = .ok (.getfield 18, 3) := by decide +kernel
theorem dX0_add_29 : decode cX0_add 29 = .ok (.iload_n 2, 1) := by decide +kernel
theorem dX0_add_30 : decode cX0_add 30 = .ok (.iastore, 1) := by decide +kernel
theorem dX0_add_31 : decode cX0_add 31 = .ok (.aload_n 0, 1) := by decide +kernel
theorem dX0_add_32 : decode cX0_add 32 = .ok (.dup, 1) := by decide +kernel
theorem dX0_add_33 : decode cX0_add 33 = .ok (.getfield 18, 3) := by decide +kernel
theorem dX0_add_36 : decode cX0_add 36 = .ok (.iconst 1, 1) := by decide +kernel
theorem dX0_add_37 : decode cX0_add 37 = .ok (.iadd, 1) := by decide +kernel
theorem dX0_add_38 : decode cX0_add 38 = .ok (.putfield 18, 3) := by decide +kernel
theorem dX0_add_41 : decode cX0_add 41 = .ok (.iconst 1, 1) := by decide +kernel
theorem dX0_add_42 : decode cX0_add 42 = .ok (.ireturn, 1) := by decide +kernel
theorem dX0_firstWrong_0 : decode cX0_firstWrong 0 = .ok (.iconst 0, 1) := by decide +kernel
theorem dX0_firstWrong_1 : decode cX0_firstWrong 1 = .ok (.istore_n 2, 1) := by decide +kernel
theorem dX0_firstWrong_2 : decode cX0_firstWrong 2 = .ok (.iload_n 2, 1) := by decide +kernel
theorem dX0_firstWrong_3 : decode cX0_firstWrong 3 = .ok (.aload_n 0, 1) := by decide +kernel
theorem dX0_firstWrong_4 : decode cX0_firstWrong 4 = .ok (.getfield 18, 3) := by decide +kernel
theorem dX0_firstWrong_7 : decode cX0_firstWrong 7 = .ok (.if_icmp .ge 30, 3) := by decide +kernel
theorem dX0_firstWrong_10 : decode cX0_firstWrong 10 = .ok (.aload_n 1, 1) := by decide +kernel
theorem dX0_firstWrong_11 : decode cX0_firstWrong 11 = .ok (.aload_n 0, 1) := by decide +kernel
theorem dX0_firstWrong_12 : decode cX0_firstWrong 12 = .ok (.getfield 9, 3) := by decide +kernel
theorem dX0_firstWrong_15 : decode cX0_firstWrong 15 = .ok (.iload_n 2, 1) := by decide +kernel
theorem dX0_firstWrong_16 : decode cX0_firstWrong 16 = .ok (.iaload, 1) := by decide +kernel
theorem dX0_firstWrong_17 : decode cX0_firstWrong 17 = .ok (.invokevirtual 22, 3) := by decide +kernel
theorem dX0_firstWrong_20 : decode cX0_firstWrong 20 = .ok (.aload_n 0, 1) := by decide +kernel
theorem dX0_firstWrong_21 : decode cX0_firstWrong 21 = .ok (.getfield 15, 3) := by decide +kernel
theorem dX0_firstWrong_24 : decode cX0_firstWrong 24 = .ok (.iload_n 2, 1) := by decide +kernel
theorem dX0_firstWrong_25 : decode cX0_firstWrong 25 = .ok (.iaload, 1) := by decide +kernel
theorem dX0_firstWrong_26 : decode cX0_firstWrong 26 = .ok (.if_icmp .eq 5, 3) := by decide +kernel
theorem dX0_firstWrong_29 : decode cX0_firstWrong 29 = .ok (.iload_n 2, 1) := by decide +kernel
theorem dX0_firstWrong_30 : decode cX0_firstWrong 30 = .ok (.ireturn, 1) := by decide +kernel
theorem dX0_firstWrong_31 : decode cX0_firstWrong 31 = .ok (.iinc 2 1, 3) := by decide +kernel
theorem dX0_firstWrong_34 : decode cX0_firstWrong 34 = .ok (.goto (-32), 3) := by decide +kernel
theorem dX0_firstWrong_37 : decode cX0_firstWrong 37 = .ok (.iconst (-1), 1) := by decide +kernel
theorem dX0_firstWrong_38 : decode cX0_firstWrong 38 = .ok (.ireturn, 1) := by decide +kernel
theorem dX1_init_0 : decode cX1_init 0 = .ok (.aload_n 0, 1) := by decide +kernel
theorem dX1_init_1 : decode cX1_init 1 = .ok (.invokespecial 3, 3) := by decide +kernel
theorem dX1_init_4 : decode cX1_init 4 = .ok (.aload_n 0, 1) := by decide +kernel
theorem dX1_init_5 : decode cX1_init 5 = .ok (.bipush 6, 2) := by decide +kernel
theorem dX1_init_7 : decode cX1_init 7 = .ok (.newarray .int, 2) := by decide +kernel
theorem dX1_init_9 : decode cX1_init 9 = .ok (.putfield 9, 3) := by decide +kernel
theorem dX1_init_12 : decode cX1_init 12 = .ok (.aload_n 0, 1) := by decide +kernel
theorem dX1_init_13 : decode cX1_init 13 = .ok (.bipush 6, 2) := by decide +kernel
theorem dX1_init_15 : decode cX1_init 15 = .ok (.newarray .int, 2) := by decide +kernel
theorem dX1_init_17 : decode cX1_init 17 = .ok (.putfield 15, 3) := by decide +kernel
theorem dX1_init_20 : decode cX1_init 20 = .ok (.aload_n 0, 1) := by decide +kernel
theorem dX1_init_21 : decode cX1_init 21 = .ok (.bipush 6, 2) := by decide +kernel
theorem dX1_init_23 : decode cX1_init 23 = .ok (.newarray .int, 2) := by decide +kernel
theorem dX1_init_25 : decode cX1_init 25 = .ok (.putfield 18, 3) := by decide +kernel
theorem dX1_init_28 : decode cX1_init 28 = .ok (.aload_n 0, 1) := by decide +kernel
theorem dX1_init_29 : decode cX1_init 29 = .ok (.bipush 6, 2) := by decide +kernel
theorem dX1_init_31 : decode cX1_init 31 = .ok (.newarray .boolean, 2) := by decide +kernel
theorem dX1_init_33 : decode cX1_init 33 = .ok (.putfield 21, 3) := by decide +kernel
theorem dX1_init_36 : decode cX1_init 36 = .ok (.aload_n 0, 1) := by decide +kernel
theorem dX1_init_37 : decode cX1_init 37 = .ok (.bipush 100, 2) := by decide +kernel
theorem dX1_init_39 : decode cX1_init 39 = .ok (.newarray .int, 2) := by decide +kernel
theorem dX1_init_41 : decode cX1_init 41 = .ok (.putfield 25, 3) := by decide +kernel
theorem dX1_init_44 : decode cX1_init 44 = .ok (.return_, 1) := by decide +kernel
theorem dX1_add_0 : decode cX1_add 0 = .ok (.aload_n 0, 1) := by decide +kernel
theorem dX1_add_1 : decode cX1_add 1 = .ok (.getfield 28, 3) := by decide +kernel
theorem dX1_add_4 : decode cX1_add 4 = .ok (.bipush 6, 2) := by decide +kernel
theorem dX1_add_6 : decode cX1_add 6 = .ok (.if_icmp .lt 5, 3) := by decide +kernel
theorem dX1_add_9 : decode cX1_add 9 = .ok (.iconst 0, 1) := by decide +kernel
theorem dX1_add_10 : decode cX1_add 10 = .ok (.ireturn, 1) := by decide +kernel
theorem dX1_add_11 : decode cX1_add 11 = .ok (.aload_n 0, 1) := by decide +kernel
theorem dX1_add_12 : decode cX1_add 12 = .ok (.getfield 9, 3) := by decide +kernel
theorem dX1_add_15 : decode cX1_add 15 = .ok (.aload_n 0, 1) := by decide +kernel
theorem dX1_add_16 : decode cX1_add 16 = .ok (.getfield 28, 3) := by decide +kernel
theorem dX1_add_19 : decode cX1_add 19 = .ok (.iload_n 1, 1) := by decide +kernel
theorem dX1_add_20 : decode cX1_add 20 = .ok (.iastore, 1) := by decide +kernel
theorem dX1_add_21 : decode cX1_add 21 = .ok (.aload_n 0, 1) := by decide +kernel
theorem dX1_add_22 : decode cX1_add 22 = .ok (.getfield 15, 3) := by decide +kernel
theorem dX1_add_25 : decode cX1_add 25 = .ok (.aload_n 0, 1) := by decide +kernel
theorem dX1_add_26 : decode cX1_add 26 = .ok (.getfield 28, 3) := by decide +kernel
theorem dX1_add_29 : decode cX1_add 29 = .ok (.iload_n 2, 1) := by decide +kernel
theorem dX1_add_30 : decode cX1_add 30 = .ok (.iastore, 1) := by decide +kernel
theorem dX1_add_31 : decode cX1_add 31 = .ok (.aload_n 0, 1) := by decide +kernel
theorem dX1_add_32 : decode cX1_add 32 = .ok (.getfield 18, 3) := by decide +kernel
theorem dX1_add_35 : decode cX1_add 35 = .ok (.aload_n 0, 1) := by decide +kernel
theorem dX1_add_36 : decode cX1_add 36 = .ok (.getfield 28, 3) := by decide +kernel
theorem dX1_add_39 : decode cX1_add 39 = .ok (.iload_n 3, 1) := by decide +kernel
theorem dX1_add_40 : decode cX1_add 40 = .ok (.iastore, 1) := by decide +kernel
theorem dX1_add_41 : decode cX1_add 41 = .ok (.aload_n 0, 1) := by decide +kernel
theorem dX1_add_42 : decode cX1_add 42 = .ok (.getfield 21, 3) := by decide +kernel
theorem dX1_add_45 : decode cX1_add 45 = .ok (.aload_n 0, 1) := by decide +kernel
theorem dX1_add_46 : decode cX1_add 46 = .ok (.getfield 28, 3) := by decide +kernel
theorem dX1_add_49 : decode cX1_add 49 = .ok (.iload 4, 2) := by decide +kernel
theorem dX1_add_51 : decode cX1_add 51 = .ok (.bastore, 1) := by decide +kernel
theorem dX1_add_52 : decode cX1_add 52 = .ok (.aload_n 0, 1) := by decide +kernel
theorem dX1_add_53 : decode cX1_add 53 = .ok (.dup, 1) := by decide +kernel
theorem dX1_add_54 : decode cX1_add 54 = .ok (.getfield 28, 3) := by decide +kernel
theorem dX1_add_57 : decode cX1_add 57 = .ok (.iconst 1, 1) := by decide +kernel
theorem dX1_add_58 : decode cX1_add 58 = .ok (.iadd, 1) := by decide +kernel
theorem dX1_add_59 : decode cX1_add 59 = .ok (.putfield 28, 3) := by decide +kernel
theorem dX1_add_62 : decode cX1_add 62 = .ok (.iconst 1, 1) := by decide +kernel
theorem dX1_add_63 : decode cX1_add 63 = .ok (.ireturn, 1) := by decide +kernel
theorem dX1_sift_0 : decode cX1_sift 0 = .ok (.aload_n 0, 1) := by decide +kernel
theorem dX1_sift_1 : decode cX1_sift 1 = .ok (.iconst 0, 1) := by decide +kernel
theorem dX1_sift_2 : decode cX1_sift 2 = .ok (.putfield 32, 3) := by decide +kernel
theorem dX1_sift_5 : decode cX1_sift 5 = .ok (.iconst 0, 1) := by decide +kernel
theorem dX1_sift_6 : decode cX1_sift 6 = .ok (.istore 4, 2) := by decide +kernel
theorem dX1_sift_8 : decode cX1_sift 8 = .ok (.iload 4, 2) := by decide +kernel
theorem dX1_sift_10 : decode cX1_sift 10 = .ok (.bipush 100, 2) := by decide +kernel
theorem dX1_sift_12 : decode cX1_sift 12 = .ok (.if_icmp .ge 42, 3) := by decide +kernel
theorem dX1_sift_15 : decode cX1_sift 15 = .ok (.aload_n 0, 1) := by decide +kernel
theorem dX1_sift_16 : decode cX1_sift 16 = .ok (.aload_n 1, 1) := by decide +kernel
theorem dX1_sift_17 : decode cX1_sift 17 = .ok (.iload_n 2, 1) := by decide +kernel
theorem dX1_sift_18 : decode cX1_sift 18 = .ok (.iload_n 3, 1) := by decide +kernel
theorem dX1_sift_19 : decode cX1_sift 19 = .ok (.iload 4, 2) := by decide +kernel
theorem dX1_sift_21 : decode cX1_sift 21 = .ok (.invokevirtual 35, 3) := by decide +kernel
theorem dX1_sift_24 : decode cX1_sift 24 = .ok (.ifCond .eq 24, 3) := by decide +kernel
theorem dX1_sift_27 : decode cX1_sift 27 = .ok (.aload_n 0, 1) := by decide +kernel
theorem dX1_sift_28 : decode cX1_sift 28 = .ok (.getfield 25, 3) := by decide +kernel
theorem dX1_sift_31 : decode cX1_sift 31 = .ok (.aload_n 0, 1) := by decide +kernel
theorem dX1_sift_32 : decode cX1_sift 32 = .ok (.getfield 32, 3) := by decide +kernel
theorem dX1_sift_35 : decode cX1_sift 35 = .ok (.iload 4, 2) := by decide +kernel
theorem dX1_sift_37 : decode cX1_sift 37 = .ok (.iastore, 1) := by decide +kernel
theorem dX1_sift_38 : decode cX1_sift 38 = .ok (.aload_n 0, 1) := by decide +kernel
theorem dX1_sift_39 : decode cX1_sift 39 = .ok (.dup, 1) := by decide +kernel
theorem dX1_sift_40 : decode cX1_sift 40 = .ok (.getfield 32, 3) := by decide +kernel
theorem dX1_sift_43 : decode cX1_sift 43 = .ok (.iconst 1, 1) := by decide +kernel
theorem dX1_sift_44 : decode cX1_sift 44 = .ok (.iadd, 1) := by decide +kernel
theorem dX1_sift_45 : decode cX1_sift 45 = .ok (.putfield 32, 3) := by decide +kernel
theorem dX1_sift_48 : decode cX1_sift 48 = .ok (.iinc 4 1, 3) := by decide +kernel
theorem dX1_sift_51 : decode cX1_sift 51 = .ok (.goto (-43), 3) := by decide +kernel
theorem dX1_sift_54 : decode cX1_sift 54 = .ok (.return_, 1) := by decide +kernel
theorem dX1_fits_0 : decode cX1_fits 0 = .ok (.iconst 0, 1) := by decide +kernel
theorem dX1_fits_1 : decode cX1_fits 1 = .ok (.istore 5, 2) := by decide +kernel
theorem dX1_fits_3 : decode cX1_fits 3 = .ok (.iload 5, 2) := by decide +kernel
theorem dX1_fits_5 : decode cX1_fits 5 = .ok (.aload_n 0, 1) := by decide +kernel
theorem dX1_fits_6 : decode cX1_fits 6 = .ok (.getfield 28, 3) := by decide +kernel
theorem dX1_fits_9 : decode cX1_fits 9 = .ok (.if_icmp .ge 73, 3) := by decide +kernel
theorem dX1_fits_12 : decode cX1_fits 12 = .ok (.aload_n 0, 1) := by decide +kernel
theorem dX1_fits_13 : decode cX1_fits 13 = .ok (.getfield 9, 3) := by decide +kernel
theorem dX1_fits_16 : decode cX1_fits 16 = .ok (.iload 5, 2) := by decide +kernel
theorem dX1_fits_18 : decode cX1_fits 18 = .ok (.iaload, 1) := by decide +kernel
theorem dX1_fits_19 : decode cX1_fits 19 = .ok (.iload_n 2, 1) := by decide +kernel
theorem dX1_fits_20 : decode cX1_fits 20 = .ok (.if_icmp .ne 18, 3) := by decide +kernel
theorem dX1_fits_23 : decode cX1_fits 23 = .ok (.aload_n 0, 1) := by decide +kernel
theorem dX1_fits_24 : decode cX1_fits 24 = .ok (.getfield 15, 3) := by decide +kernel
theorem dX1_fits_27 : decode cX1_fits 27 = .ok (.iload 5, 2) := by decide +kernel
theorem dX1_fits_29 : decode cX1_fits 29 = .ok (.iaload, 1) := by decide +kernel
theorem dX1_fits_30 : decode cX1_fits 30 = .ok (.iload_n 3, 1) := by decide +kernel
theorem dX1_fits_31 : decode cX1_fits 31 = .ok (.if_icmp .ne 7, 3) := by decide +kernel
theorem dX1_fits_34 : decode cX1_fits 34 = .ok (.iconst 1, 1) := by decide +kernel
theorem dX1_fits_35 : decode cX1_fits 35 = .ok (.goto 4, 3) := by decide +kernel
theorem dX1_fits_38 : decode cX1_fits 38 = .ok (.iconst 0, 1) := by decide +kernel
theorem dX1_fits_39 : decode cX1_fits 39 = .ok (.istore 6, 2) := by decide +kernel
theorem dX1_fits_41 : decode cX1_fits 41 = .ok (.iload 6, 2) := by decide +kernel
theorem dX1_fits_43 : decode cX1_fits 43 = .ok (.ifCond .eq 33, 3) := by decide +kernel
theorem dX1_fits_46 : decode cX1_fits 46 = .ok (.aload_n 1, 1) := by decide +kernel
theorem dX1_fits_47 : decode cX1_fits 47 = .ok (.iload_n 3, 1) := by decide +kernel
theorem dX1_fits_48 : decode cX1_fits 48 = .ok (.aload_n 1, 1) := by decide +kernel
theorem dX1_fits_49 : decode cX1_fits 49 = .ok (.iload 4, 2) := by decide +kernel
theorem dX1_fits_51 : decode cX1_fits 51 = .ok (.aload_n 0, 1) := by decide +kernel
theorem dX1_fits_52 : decode cX1_fits 52 = .ok (.getfield 18, 3) := by decide +kernel
theorem dX1_fits_55 : decode cX1_fits 55 = .ok (.iload 5, 2) := by decide +kernel
theorem dX1_fits_57 : decode cX1_fits 57 = .ok (.iaload, 1) := by decide +kernel
theorem dX1_fits_58 : decode cX1_fits 58 = .ok (.invokestatic 39, 3) := by decide +kernel
theorem dX1_fits_61 : decode cX1_fits 61 = .ok (.invokevirtual 43, 3) := by decide +kernel
theorem dX1_fits_64 : decode cX1_fits 64 = .ok (.aload_n 0, 1) := by decide +kernel
theorem dX1_fits_65 : decode cX1_fits 65 = .ok (.getfield 21, 3) := by decide +kernel
theorem dX1_fits_68 : decode cX1_fits 68 = .ok (.iload 5, 2) := by decide +kernel
theorem dX1_fits_70 : decode cX1_fits 70 = .ok (.baload, 1) := by decide +kernel
theorem dX1_fits_71 : decode cX1_fits 71 = .ok (.if_icmp .eq 5, 3) := by decide +kernel
theorem dX1_fits_74 : decode cX1_fits 74 = .ok (.iconst 0, 1) := by decide +kernel
theorem dX1_fits_75 : decode cX1_fits 75 = .ok (.ireturn, 1) := by decide +kernel
theorem dX1_fits_76 : decode cX1_fits 76 = .ok (.iinc 5 1, 3) := by decide +kernel
theorem dX1_fits_79 : decode cX1_fits 79 = .ok (.goto (-76), 3) := by decide +kernel
theorem dX1_fits_82 : decode cX1_fits 82 = .ok (.iconst 1, 1) := by decide +kernel
theorem dX1_fits_83 : decode cX1_fits 83 = .ok (.ireturn, 1) := by decide +kernel
theorem dX1_behind_0 : decode cX1_behind 0 = .ok (.iload_n 1, 1) := by decide +kernel
theorem dX1_behind_1 : decode cX1_behind 1 = .ok (.istore_n 3, 1) := by decide +kernel
theorem dX1_behind_2 : decode cX1_behind 2 = .ok (.iconst 0, 1) := by decide +kernel
theorem dX1_behind_3 : decode cX1_behind 3 = .ok (.istore 4, 2) := by decide +kernel
theorem dX1_behind_5 : decode cX1_behind 5 = .ok (.iload 4, 2) := by decide +kernel
theorem dX1_behind_7 : decode cX1_behind 7 = .ok (.iload_n 2, 1) := by decide +kernel
theorem dX1_behind_8 : decode cX1_behind 8 = .ok (.if_icmp .ge 15, 3) := by decide +kernel
theorem dX1_behind_11 : decode cX1_behind 11 = .ok (.aload_n 0, 1) := by decide +kernel
theorem dX1_behind_12 : decode cX1_behind 12 = .ok (.iload_n 3, 1) := by decide +kernel
theorem dX1_behind_13 : decode cX1_behind 13 = .ok (.invokevirtual 49, 3) := by decide +kernel
theorem dX1_behind_16 : decode cX1_behind 16 = .ok (.istore_n 3, 1) := by decide +kernel
theorem dX1_behind_17 : decode cX1_behind 17 = .ok (.iinc 4 1, 3) := by decide +kernel
theorem dX1_behind_20 : decode cX1_behind 20 = .ok (.goto (-15), 3) := by decide +kernel
theorem dX1_behind_23 : decode cX1_behind 23 = .ok (.iload_n 3, 1) := by decide +kernel
theorem dX1_behind_24 : decode cX1_behind 24 = .ok (.ireturn, 1) := by decide +kernel
theorem dX1_leastSum_0 : decode cX1_leastSum 0 = .ok (.aload_n 0, 1) := by decide +kernel
theorem dX1_leastSum_1 : decode cX1_leastSum 1 = .ok (.getfield 32, 3) := by decide +kernel
theorem dX1_leastSum_4 : decode cX1_leastSum 4 = .ok (.ifCond .le 12, 3) := by decide +kernel
theorem dX1_leastSum_7 : decode cX1_leastSum 7 = .ok (.aload_n 0, 1) := by decide +kernel
theorem dX1_leastSum_8 : decode cX1_leastSum 8 = .ok (.getfield 25, 3) := by decide +kernel
theorem dX1_leastSum_11 : decode cX1_leastSum 11 = .ok (.iconst 0, 1) := by decide +kernel
theorem dX1_leastSum_12 : decode cX1_leastSum 12 = .ok (.iaload, 1) := by decide +kernel
theorem dX1_leastSum_13 : decode cX1_leastSum 13 = .ok (.goto 4, 3) := by decide +kernel
theorem dX1_leastSum_16 : decode cX1_leastSum 16 = .ok (.iconst (-1), 1) := by decide +kernel
theorem dX1_leastSum_17 : decode cX1_leastSum 17 = .ok (.ireturn, 1) := by decide +kernel
theorem dX1_mostSum_0 : decode cX1_mostSum 0 = .ok (.aload_n 0, 1) := by decide +kernel
theorem dX1_mostSum_1 : decode cX1_mostSum 1 = .ok (.getfield 32, 3) := by decide +kernel
theorem dX1_mostSum_4 : decode cX1_mostSum 4 = .ok (.ifCond .le 17, 3) := by decide +kernel
theorem dX1_mostSum_7 : decode cX1_mostSum 7 = .ok (.aload_n 0, 1) := by decide +kernel
theorem dX1_mostSum_8 : decode cX1_mostSum 8 = .ok (.getfield 25, 3) := by decide +kernel
theorem dX1_mostSum_11 : decode cX1_mostSum 11 = .ok (.aload_n 0, 1) := by decide +kernel
theorem dX1_mostSum_12 : decode cX1_mostSum 12 = .ok (.getfield 32, 3) := by decide +kernel
theorem dX1_mostSum_15 : decode cX1_mostSum 15 = .ok (.iconst 1, 1) := by decide +kernel
theorem dX1_mostSum_16 : decode cX1_mostSum 16 = .ok (.isub, 1) := by decide +kernel
theorem dX1_mostSum_17 : decode cX1_mostSum 17 = .ok (.iaload, 1) := by decide +kernel
theorem dX1_mostSum_18 : decode cX1_mostSum 18 = .ok (.goto 4, 3) := by decide +kernel
theorem dX1_mostSum_21 : decode cX1_mostSum 21 = .ok (.iconst (-1), 1) := by decide +kernel
theorem dX1_mostSum_22 : decode cX1_mostSum 22 = .ok (.ireturn, 1) := by decide +kernel
theorem dX1_bestLook_0 : decode cX1_bestLook 0 = .ok (.iconst (-1), 1) := by decide +kernel
theorem dX1_bestLook_1 : decode cX1_bestLook 1 = .ok (.istore_n 3, 1) := by decide +kernel
theorem dX1_bestLook_2 : decode cX1_bestLook 2 = .ok (.aload_n 0, 1) := by decide +kernel
theorem dX1_bestLook_3 : decode cX1_bestLook 3 = .ok (.getfield 32, 3) := by decide +kernel
theorem dX1_bestLook_6 : decode cX1_bestLook 6 = .ok (.istore 4, 2) := by decide +kernel
theorem dX1_bestLook_8 : decode cX1_bestLook 8 = .ok (.iconst 0, 1) := by decide +kernel
theorem dX1_bestLook_9 : decode cX1_bestLook 9 = .ok (.istore 5, 2) := by decide +kernel
theorem dX1_bestLook_11 : decode cX1_bestLook 11 = .ok (.iload 5, 2) := by decide +kernel
theorem dX1_bestLook_13 : decode cX1_bestLook 13 = .ok (.bipush 12, 2) := by decide +kernel
theorem dX1_bestLook_15 : decode cX1_bestLook 15 = .ok (.if_icmp .gt 94, 3) := by decide +kernel
theorem dX1_bestLook_18 : decode cX1_bestLook 18 = .ok (.iconst 0, 1) := by decide +kernel
theorem dX1_bestLook_19 : decode cX1_bestLook 19 = .ok (.istore 6, 2) := by decide +kernel
theorem dX1_bestLook_21 : decode cX1_bestLook 21 = .ok (.iconst 0, 1) := by decide +kernel
theorem dX1_bestLook_22 : decode cX1_bestLook 22 = .ok (.istore 7, 2) := by decide +kernel
theorem dX1_bestLook_24 : decode cX1_bestLook 24 = .ok (.iload 7, 2) := by decide +kernel
theorem dX1_bestLook_26 : decode cX1_bestLook 26 = .ok (.aload_n 0, 1) := by decide +kernel
theorem dX1_bestLook_27 : decode cX1_bestLook 27 = .ok (.getfield 32, 3) := by decide +kernel
theorem dX1_bestLook_30 : decode cX1_bestLook 30 = .ok (.if_icmp .ge 45, 3) := by decide +kernel
theorem dX1_bestLook_33 : decode cX1_bestLook 33 = .ok (.aload_n 1, 1) := by decide +kernel
theorem dX1_bestLook_34 : decode cX1_bestLook 34 = .ok (.iload_n 2, 1) := by decide +kernel
theorem dX1_bestLook_35 : decode cX1_bestLook 35 = .ok (.aload_n 0, 1) := by decide +kernel
theorem dX1_bestLook_36 : decode cX1_bestLook 36 = .ok (.getfield 25, 3) := by decide +kernel
theorem dX1_bestLook_39 : decode cX1_bestLook 39 = .ok (.iload 7, 2) := by decide +kernel
theorem dX1_bestLook_41 : decode cX1_bestLook 41 = .ok (.iaload, 1) := by decide +kernel
theorem dX1_bestLook_42 : decode cX1_bestLook 42 = .ok (.invokevirtual 43, 3) := by decide +kernel
theorem dX1_bestLook_45 : decode cX1_bestLook 45 = .ok (.ifCond .eq 6, 3) := by decide +kernel
theorem dX1_bestLook_48 : decode cX1_bestLook 48 = .ok (.iinc 6 1, 3) := by decide +kernel
theorem dX1_bestLook_51 : decode cX1_bestLook 51 = .ok (.aload_n 0, 1) := by decide +kernel
theorem dX1_bestLook_52 : decode cX1_bestLook 52 = .ok (.getfield 25, 3) := by decide +kernel
theorem dX1_bestLook_55 : decode cX1_bestLook 55 = .ok (.iload 7, 2) := by decide +kernel
theorem dX1_bestLook_57 : decode cX1_bestLook 57 = .ok (.aload_n 1, 1) := by decide +kernel
theorem dX1_bestLook_58 : decode cX1_bestLook 58 = .ok (.aload_n 0, 1) := by decide +kernel
theorem dX1_bestLook_59 : decode cX1_bestLook 59 = .ok (.getfield 25, 3) := by decide +kernel
theorem dX1_bestLook_62 : decode cX1_bestLook 62 = .ok (.iload 7, 2) := by decide +kernel
theorem dX1_bestLook_64 : decode cX1_bestLook 64 = .ok (.iaload, 1) := by decide +kernel
theorem dX1_bestLook_65 : decode cX1_bestLook 65 = .ok (.invokevirtual 49, 3) := by decide +kernel
theorem dX1_bestLook_68 : decode cX1_bestLook 68 = .ok (.iastore, 1) := by decide +kernel
theorem dX1_bestLook_69 : decode cX1_bestLook 69 = .ok (.iinc 7 1, 3) := by decide +kernel
theorem dX1_bestLook_72 : decode cX1_bestLook 72 = .ok (.goto (-48), 3) := by decide +kernel
theorem dX1_bestLook_75 : decode cX1_bestLook 75 = .ok (.iload 6, 2) := by decide +kernel
theorem dX1_bestLook_77 : decode cX1_bestLook 77 = .ok (.aload_n 0, 1) := by decide +kernel
theorem dX1_bestLook_78 : decode cX1_bestLook 78 = .ok (.getfield 32, 3) := by decide +kernel
theorem dX1_bestLook_81 : decode cX1_bestLook 81 = .ok (.iload 6, 2) := by decide +kernel
theorem dX1_bestLook_83 : decode cX1_bestLook 83 = .ok (.isub, 1) := by decide +kernel
theorem dX1_bestLook_84 : decode cX1_bestLook 84 = .ok (.invokestatic 53, 3) := by decide +kernel
theorem dX1_bestLook_87 : decode cX1_bestLook 87 = .ok (.istore 7, 2) := by decide +kernel
theorem dX1_bestLook_89 : decode cX1_bestLook 89 = .ok (.iload 7, 2) := by decide +kernel
theorem dX1_bestLook_91 : decode cX1_bestLook 91 = .ok (.iload 4, 2) := by decide +kernel
theorem dX1_bestLook_93 : decode cX1_bestLook 93 = .ok (.if_icmp .ge 10, 3) := by decide +kernel
theorem dX1_bestLook_96 : decode cX1_bestLook 96 = .ok (.iload 5, 2) := by decide +kernel
theorem dX1_bestLook_98 : decode cX1_bestLook 98 = .ok (.istore_n 3, 1) := by decide +kernel
theorem dX1_bestLook_99 : decode cX1_bestLook 99 = .ok (.iload 7, 2) := by decide +kernel
theorem dX1_bestLook_101 : decode cX1_bestLook 101 = .ok (.istore 4, 2) := by decide +kernel
theorem dX1_bestLook_103 : decode cX1_bestLook 103 = .ok (.iinc 5 1, 3) := by decide +kernel
theorem dX1_bestLook_106 : decode cX1_bestLook 106 = .ok (.goto (-95), 3) := by decide +kernel
theorem dX1_bestLook_109 : decode cX1_bestLook 109 = .ok (.iload_n 3, 1) := by decide +kernel
theorem dX1_bestLook_110 : decode cX1_bestLook 110 = .ok (.ireturn, 1) := by decide +kernel
theorem dX2_init_0 : decode cX2_init 0 = .ok (.aload_n 0, 1) := by decide +kernel
theorem dX2_init_1 : decode cX2_init 1 = .ok (.invokespecial 3, 3) := by decide +kernel
theorem dX2_init_4 : decode cX2_init 4 = .ok (.aload_n 0, 1) := by decide +kernel
theorem dX2_init_5 : decode cX2_init 5 = .ok (.bipush 30, 2) := by decide +kernel
theorem dX2_init_7 : decode cX2_init 7 = .ok (.anewarray 9, 3) := by decide +kernel
theorem dX2_init_10 : decode cX2_init 10 = .ok (.putfield 11, 3) := by decide +kernel
theorem dX2_init_13 : decode cX2_init 13 = .ok (.iconst 0, 1) := by decide +kernel
theorem dX2_init_14 : decode cX2_init 14 = .ok (.istore_n 2, 1) := by decide +kernel
theorem dX2_init_15 : decode cX2_init 15 = .ok (.iload_n 2, 1) := by decide +kernel
theorem dX2_init_16 : decode cX2_init 16 = .ok (.bipush 30, 2) := by decide +kernel
theorem dX2_init_18 : decode cX2_init 18 = .ok (.if_icmp .ge 23, 3) := by decide +kernel
theorem dX2_init_21 : decode cX2_init 21 = .ok (.aload_n 0, 1) := by decide +kernel
theorem dX2_init_22 : decode cX2_init 22 = .ok (.getfield 11, 3) := by decide +kernel
theorem dX2_init_25 : decode cX2_init 25 = .ok (.iload_n 2, 1) := by decide +kernel
theorem dX2_init_26 : decode cX2_init 26 = .ok (.new 9, 3) := by decide +kernel
theorem dX2_init_29 : decode cX2_init 29 = .ok (.dup, 1) := by decide +kernel
theorem dX2_init_30 : decode cX2_init 30 = .ok (.aload_n 1, 1) := by decide +kernel
theorem dX2_init_31 : decode cX2_init 31 = .ok (.invokespecial 17, 3) := by decide +kernel
theorem dX2_init_34 : decode cX2_init 34 = .ok (.aastore, 1) := by decide +kernel
theorem dX2_init_35 : decode cX2_init 35 = .ok (.iinc 2 1, 3) := by decide +kernel
theorem dX2_init_38 : decode cX2_init 38 = .ok (.goto (-23), 3) := by decide +kernel
theorem dX2_init_41 : decode cX2_init 41 = .ok (.return_, 1) := by decide +kernel
theorem dX2_forget_0 : decode cX2_forget 0 = .ok (.aload_n 0, 1) := by decide +kernel
theorem dX2_forget_1 : decode cX2_forget 1 = .ok (.iconst 0, 1) := by decide +kernel
theorem dX2_forget_2 : decode cX2_forget 2 = .ok (.putfield 20, 3) := by decide +kernel
theorem dX2_forget_5 : decode cX2_forget 5 = .ok (.return_, 1) := by decide +kernel
theorem dX2_note_0 : decode cX2_note 0 = .ok (.aload_n 0, 1) := by decide +kernel
theorem dX2_note_1 : decode cX2_note 1 = .ok (.getfield 11, 3) := by decide +kernel
theorem dX2_note_4 : decode cX2_note 4 = .ok (.aload_n 0, 1) := by decide +kernel
theorem dX2_note_5 : decode cX2_note 5 = .ok (.getfield 24, 3) := by decide +kernel
theorem dX2_note_8 : decode cX2_note 8 = .ok (.aload_n 0, 1) := by decide +kernel
theorem dX2_note_9 : decode cX2_note 9 = .ok (.getfield 20, 3) := by decide +kernel
theorem dX2_note_12 : decode cX2_note 12 = .ok (.iadd, 1) := by decide +kernel
theorem dX2_note_13 : decode cX2_note 13 = .ok (.bipush 30, 2) := by decide +kernel
theorem dX2_note_15 : decode cX2_note 15 = .ok (.irem, 1) := by decide +kernel
theorem dX2_note_16 : decode cX2_note 16 = .ok (.aaload, 1) := by decide +kernel
theorem dX2_note_17 : decode cX2_note 17 = .ok (.aload_n 1, 1) := by decide +kernel
theorem dX2_note_18 : decode cX2_note 18 = .ok (.invokevirtual 27, 3) := by decide +kernel
theorem dX2_note_21 : decode cX2_note 21 = .ok (.aload_n 0, 1) := by decide +kernel
theorem dX2_note_22 : decode cX2_note 22 = .ok (.getfield 20, 3) := by decide +kernel
theorem dX2_note_25 : decode cX2_note 25 = .ok (.bipush 30, 2) := by decide +kernel
theorem dX2_note_27 : decode cX2_note 27 = .ok (.if_icmp .ge 16, 3) := by decide +kernel
theorem dX2_note_30 : decode cX2_note 30 = .ok (.aload_n 0, 1) := by decide +kernel
theorem dX2_note_31 : decode cX2_note 31 = .ok (.dup, 1) := by decide +kernel
theorem dX2_note_32 : decode cX2_note 32 = .ok (.getfield 20, 3) := by decide +kernel
theorem dX2_note_35 : decode cX2_note 35 = .ok (.iconst 1, 1) := by decide +kernel
theorem dX2_note_36 : decode cX2_note 36 = .ok (.iadd, 1) := by decide +kernel
theorem dX2_note_37 : decode cX2_note 37 = .ok (.putfield 20, 3) := by decide +kernel
theorem dX2_note_40 : decode cX2_note 40 = .ok (.goto 16, 3) := by decide +kernel
theorem dX2_note_43 : decode cX2_note 43 = .ok (.aload_n 0, 1) := by decide +kernel
theorem dX2_note_44 : decode cX2_note 44 = .ok (.aload_n 0, 1) := by decide +kernel
theorem dX2_note_45 : decode cX2_note 45 = .ok (.getfield 24, 3) := by decide +kernel
theorem dX2_note_48 : decode cX2_note 48 = .ok (.iconst 1, 1) := by decide +kernel
theorem dX2_note_49 : decode cX2_note 49 = .ok (.iadd, 1) := by decide +kernel
theorem dX2_note_50 : decode cX2_note 50 = .ok (.bipush 30, 2) := by decide +kernel
theorem dX2_note_52 : decode cX2_note 52 = .ok (.irem, 1) := by decide +kernel
theorem dX2_note_53 : decode cX2_note 53 = .ok (.putfield 24, 3) := by decide +kernel
theorem dX2_note_56 : decode cX2_note 56 = .ok (.return_, 1) := by decide +kernel
theorem dX2_restore_0 : decode cX2_restore 0 = .ok (.iload_n 2, 1) := by decide +kernel
theorem dX2_restore_1 : decode cX2_restore 1 = .ok (.iconst 1, 1) := by decide +kernel
theorem dX2_restore_2 : decode cX2_restore 2 = .ok (.if_icmp .lt 11, 3) := by decide +kernel
theorem dX2_restore_5 : decode cX2_restore 5 = .ok (.iload_n 2, 1) := by decide +kernel
theorem dX2_restore_6 : decode cX2_restore 6 = .ok (.aload_n 0, 1) := by decide +kernel
theorem dX2_restore_7 : decode cX2_restore 7 = .ok (.getfield 20, 3) := by decide +kernel
theorem dX2_restore_10 : decode cX2_restore 10 = .ok (.if_icmp .le 4, 3) := by decide +kernel
theorem dX2_restore_13 : decode cX2_restore 13 = .ok (.return_, 1) := by decide +kernel
theorem dX2_restore_14 : decode cX2_restore 14 = .ok (.aload_n 0, 1) := by decide +kernel
theorem dX2_restore_15 : decode cX2_restore 15 = .ok (.dup, 1) := by decide +kernel
theorem dX2_restore_16 : decode cX2_restore 16 = .ok (.getfield 20, 3) := by decide +kernel
theorem dX2_restore_19 : decode cX2_restore 19 = .ok (.iload_n 2, 1) := by decide +kernel
theorem dX2_restore_20 : decode cX2_restore 20 = .ok (.isub, 1) := by decide +kernel
theorem dX2_restore_21 : decode cX2_restore 21 = .ok (.putfield 20, 3) := by decide +kernel
theorem dX2_restore_24 : decode cX2_restore 24 = .ok (.aload_n 1, 1) := by decide +kernel
theorem dX2_restore_25 : decode cX2_restore 25 = .ok (.aload_n 0, 1) := by decide +kernel
theorem dX2_restore_26 : decode cX2_restore 26 = .ok (.getfield 11, 3) := by decide +kernel
theorem dX2_restore_29 : decode cX2_restore 29 = .ok (.aload_n 0, 1) := by decide +kernel
theorem dX2_restore_30 : decode cX2_restore 30 = .ok (.getfield 24, 3) := by decide +kernel
theorem dX2_restore_33 : decode cX2_restore 33 = .ok (.aload_n 0, 1) := by decide +kernel
theorem dX2_restore_34 : decode cX2_restore 34 = .ok (.getfield 20, 3) := by decide +kernel
theorem dX2_restore_37 : decode cX2_restore 37 = .ok (.iadd, 1) := by decide +kernel
theorem dX2_restore_38 : decode cX2_restore 38 = .ok (.bipush 30, 2) := by decide +kernel
theorem dX2_restore_40 : decode cX2_restore 40 = .ok (.irem, 1) := by decide +kernel
theorem dX2_restore_41 : decode cX2_restore 41 = .ok (.aaload, 1) := by decide +kernel
theorem dX2_restore_42 : decode cX2_restore 42 = .ok (.invokevirtual 27, 3) := by decide +kernel
theorem dX2_restore_45 : decode cX2_restore 45 = .ok (.return_, 1) := by decide +kernel
theorem dX3_init_0 : decode cX3_init 0 = .ok (.aload_n 0, 1) := by decide +kernel
theorem dX3_init_1 : decode cX3_init 1 = .ok (.invokespecial 1, 3) := by decide +kernel
theorem dX3_init_4 : decode cX3_init 4 = .ok (.aload_n 0, 1) := by decide +kernel
theorem dX3_init_5 : decode cX3_init 5 = .ok (.new 7, 3) := by decide +kernel
theorem dX3_init_8 : decode cX3_init 8 = .ok (.dup, 1) := by decide +kernel
theorem dX3_init_9 : decode cX3_init 9 = .ok (.aload_n 1, 1) := by decide +kernel
theorem dX3_init_10 : decode cX3_init 10 = .ok (.invokespecial 9, 3) := by decide +kernel
theorem dX3_init_13 : decode cX3_init 13 = .ok (.putfield 12, 3) := by decide +kernel
theorem dX3_init_16 : decode cX3_init 16 = .ok (.return_, 1) := by decide +kernel
theorem dX4_init_0 : decode cX4_init 0 = .ok (.aload_n 0, 1) := by decide +kernel
theorem dX4_init_1 : decode cX4_init 1 = .ok (.invokespecial 3, 3) := by decide +kernel
theorem dX4_init_4 : decode cX4_init 4 = .ok (.aload_n 0, 1) := by decide +kernel
theorem dX4_init_5 : decode cX4_init 5 = .ok (.bipush 8, 2) := by decide +kernel
theorem dX4_init_7 : decode cX4_init 7 = .ok (.newarray .int, 2) := by decide +kernel
theorem dX4_init_9 : decode cX4_init 9 = .ok (.putfield 9, 3) := by decide +kernel
theorem dX4_init_12 : decode cX4_init 12 = .ok (.return_, 1) := by decide +kernel
theorem dX4_pairAll_0 : decode cX4_pairAll 0 = .ok (.iconst 0, 1) := by decide +kernel
theorem dX4_pairAll_1 : decode cX4_pairAll 1 = .ok (.istore_n 2, 1) := by decide +kernel
theorem dX4_pairAll_2 : decode cX4_pairAll 2 = .ok (.iload_n 2, 1) := by decide +kernel
theorem dX4_pairAll_3 : decode cX4_pairAll 3 = .ok (.bipush 8, 2) := by decide +kernel
theorem dX4_pairAll_5 : decode cX4_pairAll 5 = .ok (.if_icmp .ge 16, 3) := by decide +kernel
theorem dX4_pairAll_8 : decode cX4_pairAll 8 = .ok (.aload_n 0, 1) := by decide +kernel
theorem dX4_pairAll_9 : decode cX4_pairAll 9 = .ok (.getfield 9, 3) := by decide +kernel
theorem dX4_pairAll_12 : decode cX4_pairAll 12 = .ok (.iload_n 2, 1) := by decide +kernel
theorem dX4_pairAll_13 : decode cX4_pairAll 13 = .ok (.iconst (-1), 1) := by decide +kernel
theorem dX4_pairAll_14 : decode cX4_pairAll 14 = .ok (.iastore, 1) := by decide +kernel
theorem dX4_pairAll_15 : decode cX4_pairAll 15 = .ok (.iinc 2 1, 3) := by decide +kernel
theorem dX4_pairAll_18 : decode cX4_pairAll 18 = .ok (.goto (-16), 3) := by decide +kernel
theorem dX4_pairAll_21 : decode cX4_pairAll 21 = .ok (.aload_n 1, 1) := by decide +kernel
theorem dX4_pairAll_22 : decode cX4_pairAll 22 = .ok (.invokevirtual 15, 3) := by decide +kernel
theorem dX4_pairAll_25 : decode cX4_pairAll 25 = .ok (.istore_n 2, 1) := by decide +kernel
theorem dX4_pairAll_26 : decode cX4_pairAll 26 = .ok (.iconst 0, 1) := by decide +kernel
theorem dX4_pairAll_27 : decode cX4_pairAll 27 = .ok (.istore_n 3, 1) := by decide +kernel
theorem dX4_pairAll_28 : decode cX4_pairAll 28 = .ok (.iload_n 3, 1) := by decide +kernel
theorem dX4_pairAll_29 : decode cX4_pairAll 29 = .ok (.bipush 8, 2) := by decide +kernel
theorem dX4_pairAll_31 : decode cX4_pairAll 31 = .ok (.if_icmp .ge 59, 3) := by decide +kernel
theorem dX4_pairAll_34 : decode cX4_pairAll 34 = .ok (.aload_n 1, 1) := by decide +kernel
theorem dX4_pairAll_35 : decode cX4_pairAll 35 = .ok (.iload_n 2, 1) := by decide +kernel
theorem dX4_pairAll_36 : decode cX4_pairAll 36 = .ok (.invokestatic 21, 3) := by decide +kernel
theorem dX4_pairAll_39 : decode cX4_pairAll 39 = .ok (.istore 4, 2) := by decide +kernel
theorem dX4_pairAll_41 : decode cX4_pairAll 41 = .ok (.iload 4, 2) := by decide +kernel
theorem dX4_pairAll_43 : decode cX4_pairAll 43 = .ok (.iconst (-1), 1) := by decide +kernel
theorem dX4_pairAll_44 : decode cX4_pairAll 44 = .ok (.if_icmp .ne 5, 3) := by decide +kernel
theorem dX4_pairAll_47 : decode cX4_pairAll 47 = .ok (.iload_n 3, 1) := by decide +kernel
theorem dX4_pairAll_48 : decode cX4_pairAll 48 = .ok (.ireturn, 1) := by decide +kernel
theorem dX4_pairAll_49 : decode cX4_pairAll 49 = .ok (.iload 4, 2) := by decide +kernel
theorem dX4_pairAll_51 : decode cX4_pairAll 51 = .ok (.bipush 8, 2) := by decide +kernel
theorem dX4_pairAll_53 : decode cX4_pairAll 53 = .ok (.idiv, 1) := by decide +kernel
theorem dX4_pairAll_54 : decode cX4_pairAll 54 = .ok (.istore 5, 2) := by decide +kernel
theorem dX4_pairAll_56 : decode cX4_pairAll 56 = .ok (.iload 4, 2) := by decide +kernel
theorem dX4_pairAll_58 : decode cX4_pairAll 58 = .ok (.bipush 8, 2) := by decide +kernel
theorem dX4_pairAll_60 : decode cX4_pairAll 60 = .ok (.irem, 1) := by decide +kernel
theorem dX4_pairAll_61 : decode cX4_pairAll 61 = .ok (.istore 6, 2) := by decide +kernel
theorem dX4_pairAll_63 : decode cX4_pairAll 63 = .ok (.aload_n 0, 1) := by decide +kernel
theorem dX4_pairAll_64 : decode cX4_pairAll 64 = .ok (.getfield 9, 3) := by decide +kernel
theorem dX4_pairAll_67 : decode cX4_pairAll 67 = .ok (.iload 5, 2) := by decide +kernel
theorem dX4_pairAll_69 : decode cX4_pairAll 69 = .ok (.iload 6, 2) := by decide +kernel
theorem dX4_pairAll_71 : decode cX4_pairAll 71 = .ok (.iastore, 1) := by decide +kernel
theorem dX4_pairAll_72 : decode cX4_pairAll 72 = .ok (.iload_n 2, 1) := by decide +kernel
theorem dX4_pairAll_73 : decode cX4_pairAll 73 = .ok (.iconst 1, 1) := by decide +kernel
theorem dX4_pairAll_74 : decode cX4_pairAll 74 = .ok (.iload 5, 2) := by decide +kernel
theorem dX4_pairAll_76 : decode cX4_pairAll 76 = .ok (.ishl, 1) := by decide +kernel
theorem dX4_pairAll_77 : decode cX4_pairAll 77 = .ok (.iconst 1, 1) := by decide +kernel
theorem dX4_pairAll_78 : decode cX4_pairAll 78 = .ok (.iload 6, 2) := by decide +kernel
theorem dX4_pairAll_80 : decode cX4_pairAll 80 = .ok (.ishl, 1) := by decide +kernel
theorem dX4_pairAll_81 : decode cX4_pairAll 81 = .ok (.ior, 1) := by decide +kernel
theorem dX4_pairAll_82 : decode cX4_pairAll 82 = .ok (.ior, 1) := by decide +kernel
theorem dX4_pairAll_83 : decode cX4_pairAll 83 = .ok (.istore_n 2, 1) := by decide +kernel
theorem dX4_pairAll_84 : decode cX4_pairAll 84 = .ok (.iinc 3 1, 3) := by decide +kernel
theorem dX4_pairAll_87 : decode cX4_pairAll 87 = .ok (.goto (-59), 3) := by decide +kernel
theorem dX4_pairAll_90 : decode cX4_pairAll 90 = .ok (.bipush 8, 2) := by decide +kernel
theorem dX4_pairAll_92 : decode cX4_pairAll 92 = .ok (.ireturn, 1) := by decide +kernel
theorem dX4_bestPair_0 : decode cX4_bestPair 0 = .ok (.iconst (-1), 1) := by decide +kernel
theorem dX4_bestPair_1 : decode cX4_bestPair 1 = .ok (.istore_n 2, 1) := by decide +kernel
theorem dX4_bestPair_2 : decode cX4_bestPair 2 = .ok (.ldc 25, 2) := by decide +kernel
theorem dX4_bestPair_4 : decode cX4_bestPair 4 = .ok (.istore_n 3, 1) := by decide +kernel
theorem dX4_bestPair_5 : decode cX4_bestPair 5 = .ok (.iconst 0, 1) := by decide +kernel
theorem dX4_bestPair_6 : decode cX4_bestPair 6 = .ok (.istore 4, 2) := by decide +kernel
theorem dX4_bestPair_8 : decode cX4_bestPair 8 = .ok (.iload 4, 2) := by decide +kernel
theorem dX4_bestPair_10 : decode cX4_bestPair 10 = .ok (.aload_n 0, 1) := by decide +kernel
theorem dX4_bestPair_11 : decode cX4_bestPair 11 = .ok (.getfield 26, 3) := by decide +kernel
theorem dX4_bestPair_14 : decode cX4_bestPair 14 = .ok (.getfield 30, 3) := by decide +kernel
theorem dX4_bestPair_17 : decode cX4_bestPair 17 = .ok (.if_icmp .ge 149, 3) := by decide +kernel
theorem dX4_bestPair_20 : decode cX4_bestPair 20 = .ok (.iconst 0, 1) := by decide +kernel
theorem dX4_bestPair_21 : decode cX4_bestPair 21 = .ok (.istore 5, 2) := by decide +kernel
theorem dX4_bestPair_23 : decode cX4_bestPair 23 = .ok (.iload 5, 2) := by decide +kernel
theorem dX4_bestPair_25 : decode cX4_bestPair 25 = .ok (.aload_n 0, 1) := by decide +kernel
theorem dX4_bestPair_26 : decode cX4_bestPair 26 = .ok (.getfield 26, 3) := by decide +kernel
theorem dX4_bestPair_29 : decode cX4_bestPair 29 = .ok (.getfield 30, 3) := by decide +kernel
theorem dX4_bestPair_32 : decode cX4_bestPair 32 = .ok (.if_icmp .ge 128, 3) := by decide +kernel
theorem dX4_bestPair_35 : decode cX4_bestPair 35 = .ok (.iload_n 1, 1) := by decide +kernel
theorem dX4_bestPair_36 : decode cX4_bestPair 36 = .ok (.iload 4, 2) := by decide +kernel
theorem dX4_bestPair_38 : decode cX4_bestPair 38 = .ok (.ishr, 1) := by decide +kernel
theorem dX4_bestPair_39 : decode cX4_bestPair 39 = .ok (.iconst 1, 1) := by decide +kernel
theorem dX4_bestPair_40 : decode cX4_bestPair 40 = .ok (.iand, 1) := by decide +kernel
theorem dX4_bestPair_41 : decode cX4_bestPair 41 = .ok (.ifCond .ne 16, 3) := by decide +kernel
theorem dX4_bestPair_44 : decode cX4_bestPair 44 = .ok (.iload_n 1, 1) := by decide +kernel
theorem dX4_bestPair_45 : decode cX4_bestPair 45 = .ok (.iload 5, 2) := by decide +kernel
theorem dX4_bestPair_47 : decode cX4_bestPair 47 = .ok (.ishr, 1) := by decide +kernel
theorem dX4_bestPair_48 : decode cX4_bestPair 48 = .ok (.iconst 1, 1) := by decide +kernel
theorem dX4_bestPair_49 : decode cX4_bestPair 49 = .ok (.iand, 1) := by decide +kernel
theorem dX4_bestPair_50 : decode cX4_bestPair 50 = .ok (.ifCond .ne 7, 3) := by decide +kernel
theorem dX4_bestPair_53 : decode cX4_bestPair 53 = .ok (.iconst 1, 1) := by decide +kernel
theorem dX4_bestPair_54 : decode cX4_bestPair 54 = .ok (.goto 4, 3) := by decide +kernel
theorem dX4_bestPair_57 : decode cX4_bestPair 57 = .ok (.iconst 0, 1) := by decide +kernel
theorem dX4_bestPair_58 : decode cX4_bestPair 58 = .ok (.istore 6, 2) := by decide +kernel
theorem dX4_bestPair_60 : decode cX4_bestPair 60 = .ok (.iload 6, 2) := by decide +kernel
theorem dX4_bestPair_62 : decode cX4_bestPair 62 = .ok (.ifCond .eq 92, 3) := by decide +kernel
theorem dX4_bestPair_65 : decode cX4_bestPair 65 = .ok (.aload_n 0, 1) := by decide +kernel
theorem dX4_bestPair_66 : decode cX4_bestPair 66 = .ok (.getfield 26, 3) := by decide +kernel
theorem dX4_bestPair_69 : decode cX4_bestPair 69 = .ok (.iload 4, 2) := by decide +kernel
theorem dX4_bestPair_71 : decode cX4_bestPair 71 = .ok (.invokevirtual 36, 3) := by decide +kernel
theorem dX4_bestPair_74 : decode cX4_bestPair 74 = .ok (.ifCond .eq 80, 3) := by decide +kernel
theorem dX4_bestPair_77 : decode cX4_bestPair 77 = .ok (.aload_n 0, 1) := by decide +kernel
theorem dX4_bestPair_78 : decode cX4_bestPair 78 = .ok (.getfield 26, 3) := by decide +kernel
theorem dX4_bestPair_81 : decode cX4_bestPair 81 = .ok (.iload 5, 2) := by decide +kernel
theorem dX4_bestPair_83 : decode cX4_bestPair 83 = .ok (.invokevirtual 40, 3) := by decide +kernel
theorem dX4_bestPair_86 : decode cX4_bestPair 86 = .ok (.ifCond .ne 6, 3) := by decide +kernel
theorem dX4_bestPair_89 : decode cX4_bestPair 89 = .ok (.goto 65, 3) := by decide +kernel
theorem dX4_bestPair_92 : decode cX4_bestPair 92 = .ok (.aload_n 0, 1) := by decide +kernel
theorem dX4_bestPair_93 : decode cX4_bestPair 93 = .ok (.iload 4, 2) := by decide +kernel
theorem dX4_bestPair_95 : decode cX4_bestPair 95 = .ok (.iload 5, 2) := by decide +kernel
theorem dX4_bestPair_97 : decode cX4_bestPair 97 = .ok (.invokevirtual 43, 3) := by decide +kernel
theorem dX4_bestPair_100 : decode cX4_bestPair 100 = .ok (.istore 7, 2) := by decide +kernel
theorem dX4_bestPair_102 : decode cX4_bestPair 102 = .ok (.iload 7, 2) := by decide +kernel
theorem dX4_bestPair_104 : decode cX4_bestPair 104 = .ok (.aload_n 0, 1) := by decide +kernel
theorem dX4_bestPair_105 : decode cX4_bestPair 105 = .ok (.iload 4, 2) := by decide +kernel
theorem dX4_bestPair_107 : decode cX4_bestPair 107 = .ok (.invokevirtual 47, 3) := by decide +kernel
theorem dX4_bestPair_110 : decode cX4_bestPair 110 = .ok (.if_icmp .le 18, 3) := by decide +kernel
theorem dX4_bestPair_113 : decode cX4_bestPair 113 = .ok (.iload 7, 2) := by decide +kernel
theorem dX4_bestPair_115 : decode cX4_bestPair 115 = .ok (.aload_n 0, 1) := by decide +kernel
theorem dX4_bestPair_116 : decode cX4_bestPair 116 = .ok (.iload 5, 2) := by decide +kernel
theorem dX4_bestPair_118 : decode cX4_bestPair 118 = .ok (.invokevirtual 47, 3) := by decide +kernel
theorem dX4_bestPair_121 : decode cX4_bestPair 121 = .ok (.if_icmp .le 7, 3) := by decide +kernel
theorem dX4_bestPair_124 : decode cX4_bestPair 124 = .ok (.iconst 1, 1) := by decide +kernel
theorem dX4_bestPair_125 : decode cX4_bestPair 125 = .ok (.goto 4, 3) := by decide +kernel
theorem dX4_bestPair_128 : decode cX4_bestPair 128 = .ok (.iconst 0, 1) := by decide +kernel
theorem dX4_bestPair_129 : decode cX4_bestPair 129 = .ok (.istore 8, 2) := by decide +kernel
theorem dX4_bestPair_131 : decode cX4_bestPair 131 = .ok (.iload 8, 2) := by decide +kernel
theorem dX4_bestPair_133 : decode cX4_bestPair 133 = .ok (.ifCond .eq 21, 3) := by decide +kernel
theorem dX4_bestPair_136 : decode cX4_bestPair 136 = .ok (.iload 7, 2) := by decide +kernel
theorem dX4_bestPair_138 : decode cX4_bestPair 138 = .ok (.iload_n 3, 1) := by decide +kernel
theorem dX4_bestPair_139 : decode cX4_bestPair 139 = .ok (.if_icmp .le 15, 3) := by decide +kernel
theorem dX4_bestPair_142 : decode cX4_bestPair 142 = .ok (.iload 4, 2) := by decide +kernel
theorem dX4_bestPair_144 : decode cX4_bestPair 144 = .ok (.bipush 8, 2) := by decide +kernel
theorem dX4_bestPair_146 : decode cX4_bestPair 146 = .ok (.imul, 1) := by decide +kernel
theorem dX4_bestPair_147 : decode cX4_bestPair 147 = .ok (.iload 5, 2) := by decide +kernel
theorem dX4_bestPair_149 : decode cX4_bestPair 149 = .ok (.iadd, 1) := by decide +kernel
theorem dX4_bestPair_150 : decode cX4_bestPair 150 = .ok (.istore_n 2, 1) := by decide +kernel
theorem dX4_bestPair_151 : decode cX4_bestPair 151 = .ok (.iload 7, 2) := by decide +kernel
theorem dX4_bestPair_153 : decode cX4_bestPair 153 = .ok (.istore_n 3, 1) := by decide +kernel
theorem dX4_bestPair_154 : decode cX4_bestPair 154 = .ok (.iinc 5 1, 3) := by decide +kernel
theorem dX4_bestPair_157 : decode cX4_bestPair 157 = .ok (.goto (-134), 3) := by decide +kernel
theorem dX4_bestPair_160 : decode cX4_bestPair 160 = .ok (.iinc 4 1, 3) := by decide +kernel
theorem dX4_bestPair_163 : decode cX4_bestPair 163 = .ok (.goto (-155), 3) := by decide +kernel
theorem dX4_bestPair_166 : decode cX4_bestPair 166 = .ok (.iload_n 2, 1) := by decide +kernel
theorem dX4_bestPair_167 : decode cX4_bestPair 167 = .ok (.ireturn, 1) := by decide +kernel
theorem dX5_init_0 : decode cX5_init 0 = .ok (.aload_n 0, 1) := by decide +kernel
theorem dX5_init_1 : decode cX5_init 1 = .ok (.invokespecial 3, 3) := by decide +kernel
theorem dX5_init_4 : decode cX5_init 4 = .ok (.aload_n 0, 1) := by decide +kernel
theorem dX5_init_5 : decode cX5_init 5 = .ok (.sipush 1000, 3) := by decide +kernel
theorem dX5_init_8 : decode cX5_init 8 = .ok (.newarray .int, 2) := by decide +kernel
theorem dX5_init_10 : decode cX5_init 10 = .ok (.putfield 9, 3) := by decide +kernel
theorem dX5_init_13 : decode cX5_init 13 = .ok (.return_, 1) := by decide +kernel
theorem dX5_work_0 : decode cX5_work 0 = .ok (.iconst 0, 1) := by decide +kernel
theorem dX5_work_1 : decode cX5_work 1 = .ok (.istore 5, 2) := by decide +kernel
theorem dX5_work_3 : decode cX5_work 3 = .ok (.iload 5, 2) := by decide +kernel
theorem dX5_work_5 : decode cX5_work 5 = .ok (.sipush 999, 3) := by decide +kernel
theorem dX5_work_8 : decode cX5_work 8 = .ok (.if_icmp .gt 17, 3) := by decide +kernel
theorem dX5_work_11 : decode cX5_work 11 = .ok (.aload_n 0, 1) := by decide +kernel
theorem dX5_work_12 : decode cX5_work 12 = .ok (.getfield 9, 3) := by decide +kernel
theorem dX5_work_15 : decode cX5_work 15 = .ok (.iload 5, 2) := by decide +kernel
theorem dX5_work_17 : decode cX5_work 17 = .ok (.iconst 0, 1) := by decide +kernel
theorem dX5_work_18 : decode cX5_work 18 = .ok (.iastore, 1) := by decide +kernel
theorem dX5_work_19 : decode cX5_work 19 = .ok (.iinc 5 1, 3) := by decide +kernel
theorem dX5_work_22 : decode cX5_work 22 = .ok (.goto (-19), 3) := by decide +kernel
theorem dX5_work_25 : decode cX5_work 25 = .ok (.iconst 1, 1) := by decide +kernel
theorem dX5_work_26 : decode cX5_work 26 = .ok (.istore 5, 2) := by decide +kernel
theorem dX5_work_28 : decode cX5_work 28 = .ok (.iload 5, 2) := by decide +kernel
theorem dX5_work_30 : decode cX5_work 30 = .ok (.iload 4, 2) := by decide +kernel
theorem dX5_work_32 : decode cX5_work 32 = .ok (.if_icmp .ge 15, 3) := by decide +kernel
theorem dX5_work_35 : decode cX5_work 35 = .ok (.aload_n 0, 1) := by decide +kernel
theorem dX5_work_36 : decode cX5_work 36 = .ok (.aload_n 1, 1) := by decide +kernel
theorem dX5_work_37 : decode cX5_work 37 = .ok (.iload_n 2, 1) := by decide +kernel
theorem dX5_work_38 : decode cX5_work 38 = .ok (.invokevirtual 15, 3) := by decide +kernel
theorem dX5_work_41 : decode cX5_work 41 = .ok (.iinc 5 1, 3) := by decide +kernel
theorem dX5_work_44 : decode cX5_work 44 = .ok (.goto (-16), 3) := by decide +kernel
theorem dX5_work_47 : decode cX5_work 47 = .ok (.aload_n 0, 1) := by decide +kernel
theorem dX5_work_48 : decode cX5_work 48 = .ok (.ldc 19, 2) := by decide +kernel
theorem dX5_work_50 : decode cX5_work 50 = .ok (.putfield 20, 3) := by decide +kernel
theorem dX5_work_53 : decode cX5_work 53 = .ok (.iload_n 3, 1) := by decide +kernel
theorem dX5_work_54 : decode cX5_work 54 = .ok (.aload_n 1, 1) := by decide +kernel
theorem dX5_work_55 : decode cX5_work 55 = .ok (.getfield 24, 3) := by decide +kernel
theorem dX5_work_58 : decode cX5_work 58 = .ok (.iload_n 2, 1) := by decide +kernel
theorem dX5_work_59 : decode cX5_work 59 = .ok (.iaload, 1) := by decide +kernel
theorem dX5_work_60 : decode cX5_work 60 = .ok (.invokestatic 29, 3) := by decide +kernel
theorem dX5_work_63 : decode cX5_work 63 = .ok (.istore 5, 2) := by decide +kernel
theorem dX5_work_65 : decode cX5_work 65 = .ok (.iconst 0, 1) := by decide +kernel
theorem dX5_work_66 : decode cX5_work 66 = .ok (.istore 6, 2) := by decide +kernel
theorem dX5_work_68 : decode cX5_work 68 = .ok (.iload 6, 2) := by decide +kernel
theorem dX5_work_70 : decode cX5_work 70 = .ok (.iload 5, 2) := by decide +kernel
theorem dX5_work_72 : decode cX5_work 72 = .ok (.if_icmp .gt 54, 3) := by decide +kernel
theorem dX5_work_75 : decode cX5_work 75 = .ok (.aload_n 0, 1) := by decide +kernel
theorem dX5_work_76 : decode cX5_work 76 = .ok (.aload_n 1, 1) := by decide +kernel
theorem dX5_work_77 : decode cX5_work 77 = .ok (.iload_n 2, 1) := by decide +kernel
theorem dX5_work_78 : decode cX5_work 78 = .ok (.iload 6, 2) := by decide +kernel
theorem dX5_work_80 : decode cX5_work 80 = .ok (.invokevirtual 35, 3) := by decide +kernel
theorem dX5_work_83 : decode cX5_work 83 = .ok (.iload_n 3, 1) := by decide +kernel
theorem dX5_work_84 : decode cX5_work 84 = .ok (.iadd, 1) := by decide +kernel
theorem dX5_work_85 : decode cX5_work 85 = .ok (.iload 6, 2) := by decide +kernel
theorem dX5_work_87 : decode cX5_work 87 = .ok (.isub, 1) := by decide +kernel
theorem dX5_work_88 : decode cX5_work 88 = .ok (.istore 7, 2) := by decide +kernel
theorem dX5_work_90 : decode cX5_work 90 = .ok (.iload 7, 2) := by decide +kernel
theorem dX5_work_92 : decode cX5_work 92 = .ok (.aload_n 0, 1) := by decide +kernel
theorem dX5_work_93 : decode cX5_work 93 = .ok (.getfield 20, 3) := by decide +kernel
theorem dX5_work_96 : decode cX5_work 96 = .ok (.if_icmp .gt 24, 3) := by decide +kernel
theorem dX5_work_99 : decode cX5_work 99 = .ok (.iload 7, 2) := by decide +kernel
theorem dX5_work_101 : decode cX5_work 101 = .ok (.ldc 19, 2) := by decide +kernel
theorem dX5_work_103 : decode cX5_work 103 = .ok (.if_icmp .ge 17, 3) := by decide +kernel
theorem dX5_work_106 : decode cX5_work 106 = .ok (.aload_n 0, 1) := by decide +kernel
theorem dX5_work_107 : decode cX5_work 107 = .ok (.iload 7, 2) := by decide +kernel
theorem dX5_work_109 : decode cX5_work 109 = .ok (.putfield 20, 3) := by decide +kernel
theorem dX5_work_112 : decode cX5_work 112 = .ok (.aload_n 0, 1) := by decide +kernel
theorem dX5_work_113 : decode cX5_work 113 = .ok (.iload_n 3, 1) := by decide +kernel
theorem dX5_work_114 : decode cX5_work 114 = .ok (.iload 6, 2) := by decide +kernel
theorem dX5_work_116 : decode cX5_work 116 = .ok (.isub, 1) := by decide +kernel
theorem dX5_work_117 : decode cX5_work 117 = .ok (.putfield 39, 3) := by decide +kernel
theorem dX5_work_120 : decode cX5_work 120 = .ok (.iinc 6 1, 3) := by decide +kernel
theorem dX5_work_123 : decode cX5_work 123 = .ok (.goto (-55), 3) := by decide +kernel
theorem dX5_work_126 : decode cX5_work 126 = .ok (.aload_n 0, 1) := by decide +kernel
theorem dX5_work_127 : decode cX5_work 127 = .ok (.getfield 20, 3) := by decide +kernel
theorem dX5_work_130 : decode cX5_work 130 = .ok (.ldc 19, 2) := by decide +kernel
theorem dX5_work_132 : decode cX5_work 132 = .ok (.if_icmp .ge 7, 3) := by decide +kernel
theorem dX5_work_135 : decode cX5_work 135 = .ok (.iconst 1, 1) := by decide +kernel
theorem dX5_work_136 : decode cX5_work 136 = .ok (.goto 4, 3) := by decide +kernel
theorem dX5_work_139 : decode cX5_work 139 = .ok (.iconst 0, 1) := by decide +kernel
theorem dX5_work_140 : decode cX5_work 140 = .ok (.ireturn, 1) := by decide +kernel
theorem dX5_addQuarter_0 : decode cX5_addQuarter 0 = .ok (.ldc 19, 2) := by decide +kernel
theorem dX5_addQuarter_2 : decode cX5_addQuarter 2 = .ok (.istore_n 3, 1) := by decide +kernel
theorem dX5_addQuarter_3 : decode cX5_addQuarter 3 = .ok (.iconst 0, 1) := by decide +kernel
theorem dX5_addQuarter_4 : decode cX5_addQuarter 4 = .ok (.istore 4, 2) := by decide +kernel
theorem dX5_addQuarter_6 : decode cX5_addQuarter 6 = .ok (.iload 4, 2) := by decide +kernel
theorem dX5_addQuarter_8 : decode cX5_addQuarter 8 = .ok (.sipush 999, 3) := by decide +kernel
theorem dX5_addQuarter_11 : decode cX5_addQuarter 11 = .ok (.if_icmp .gt 69, 3) := by decide +kernel
theorem dX5_addQuarter_14 : decode cX5_addQuarter 14 = .ok (.iload 4, 2) := by decide +kernel
theorem dX5_addQuarter_16 : decode cX5_addQuarter 16 = .ok (.aload_n 1, 1) := by decide +kernel
theorem dX5_addQuarter_17 : decode cX5_addQuarter 17 = .ok (.getfield 24, 3) := by decide +kernel
theorem dX5_addQuarter_20 : decode cX5_addQuarter 20 = .ok (.iload_n 2, 1) := by decide +kernel
theorem dX5_addQuarter_21 : decode cX5_addQuarter 21 = .ok (.iaload, 1) := by decide +kernel
theorem dX5_addQuarter_22 : decode cX5_addQuarter 22 = .ok (.if_icmp .gt 58, 3) := by decide +kernel
theorem dX5_addQuarter_25 : decode cX5_addQuarter 25 = .ok (.aload_n 0, 1) := by decide +kernel
theorem dX5_addQuarter_26 : decode cX5_addQuarter 26 = .ok (.aload_n 1, 1) := by decide +kernel
theorem dX5_addQuarter_27 : decode cX5_addQuarter 27 = .ok (.iload_n 2, 1) := by decide +kernel
theorem dX5_addQuarter_28 : decode cX5_addQuarter 28 = .ok (.iload 4, 2) := by decide +kernel
theorem dX5_addQuarter_30 : decode cX5_addQuarter 30 = .ok (.invokevirtual 35, 3) := by decide +kernel
theorem dX5_addQuarter_33 : decode cX5_addQuarter 33 = .ok (.istore 5, 2) := by decide +kernel
theorem dX5_addQuarter_35 : decode cX5_addQuarter 35 = .ok (.iload 5, 2) := by decide +kernel
theorem dX5_addQuarter_37 : decode cX5_addQuarter 37 = .ok (.ldc 19, 2) := by decide +kernel
theorem dX5_addQuarter_39 : decode cX5_addQuarter 39 = .ok (.if_icmp .ge 13, 3) := by decide +kernel
theorem dX5_addQuarter_42 : decode cX5_addQuarter 42 = .ok (.iload_n 3, 1) := by decide +kernel
theorem dX5_addQuarter_43 : decode cX5_addQuarter 43 = .ok (.iload 5, 2) := by decide +kernel
theorem dX5_addQuarter_45 : decode cX5_addQuarter 45 = .ok (.iload 4, 2) := by decide +kernel
theorem dX5_addQuarter_47 : decode cX5_addQuarter 47 = .ok (.isub, 1) := by decide +kernel
theorem dX5_addQuarter_48 : decode cX5_addQuarter 48 = .ok (.invokestatic 29, 3) := by decide +kernel
theorem dX5_addQuarter_51 : decode cX5_addQuarter 51 = .ok (.istore_n 3, 1) := by decide +kernel
theorem dX5_addQuarter_52 : decode cX5_addQuarter 52 = .ok (.aload_n 0, 1) := by decide +kernel
theorem dX5_addQuarter_53 : decode cX5_addQuarter 53 = .ok (.getfield 9, 3) := by decide +kernel
theorem dX5_addQuarter_56 : decode cX5_addQuarter 56 = .ok (.iload 4, 2) := by decide +kernel
theorem dX5_addQuarter_58 : decode cX5_addQuarter 58 = .ok (.iload_n 3, 1) := by decide +kernel
theorem dX5_addQuarter_59 : decode cX5_addQuarter 59 = .ok (.ldc 19, 2) := by decide +kernel
theorem dX5_addQuarter_61 : decode cX5_addQuarter 61 = .ok (.if_icmp .ne 8, 3) := by decide +kernel
theorem dX5_addQuarter_64 : decode cX5_addQuarter 64 = .ok (.ldc 19, 2) := by decide +kernel
theorem dX5_addQuarter_66 : decode cX5_addQuarter 66 = .ok (.goto 7, 3) := by decide +kernel
theorem dX5_addQuarter_69 : decode cX5_addQuarter 69 = .ok (.iload_n 3, 1) := by decide +kernel
theorem dX5_addQuarter_70 : decode cX5_addQuarter 70 = .ok (.iload 4, 2) := by decide +kernel
theorem dX5_addQuarter_72 : decode cX5_addQuarter 72 = .ok (.iadd, 1) := by decide +kernel
theorem dX5_addQuarter_73 : decode cX5_addQuarter 73 = .ok (.iastore, 1) := by decide +kernel
theorem dX5_addQuarter_74 : decode cX5_addQuarter 74 = .ok (.iinc 4 1, 3) := by decide +kernel
theorem dX5_addQuarter_77 : decode cX5_addQuarter 77 = .ok (.goto (-71), 3) := by decide +kernel
theorem dX5_addQuarter_80 : decode cX5_addQuarter 80 = .ok (.return_, 1) := by decide +kernel
theorem dX5_costFrom_0 : decode cX5_costFrom 0 = .ok (.aload_n 1, 1) := by decide +kernel
theorem dX5_costFrom_1 : decode cX5_costFrom 1 = .ok (.iload_n 3, 1) := by decide +kernel
theorem dX5_costFrom_2 : decode cX5_costFrom 2 = .ok (.invokevirtual 42, 3) := by decide +kernel
theorem dX5_costFrom_5 : decode cX5_costFrom 5 = .ok (.istore 4, 2) := by decide +kernel
theorem dX5_costFrom_7 : decode cX5_costFrom 7 = .ok (.iload 4, 2) := by decide +kernel
theorem dX5_costFrom_9 : decode cX5_costFrom 9 = .ok (.ifCond .lt 15, 3) := by decide +kernel
theorem dX5_costFrom_12 : decode cX5_costFrom 12 = .ok (.iload 4, 2) := by decide +kernel
theorem dX5_costFrom_14 : decode cX5_costFrom 14 = .ok (.sipush 999, 3) := by decide +kernel
theorem dX5_costFrom_17 : decode cX5_costFrom 17 = .ok (.if_icmp .gt 7, 3) := by decide +kernel
theorem dX5_costFrom_20 : decode cX5_costFrom 20 = .ok (.iconst 1, 1) := by decide +kernel
theorem dX5_costFrom_21 : decode cX5_costFrom 21 = .ok (.goto 4, 3) := by decide +kernel
theorem dX5_costFrom_24 : decode cX5_costFrom 24 = .ok (.iconst 0, 1) := by decide +kernel
theorem dX5_costFrom_25 : decode cX5_costFrom 25 = .ok (.istore 5, 2) := by decide +kernel
theorem dX5_costFrom_27 : decode cX5_costFrom 27 = .ok (.iload 5, 2) := by decide +kernel
theorem dX5_costFrom_29 : decode cX5_costFrom 29 = .ok (.ifCond .eq 23, 3) := by decide +kernel
theorem dX5_costFrom_32 : decode cX5_costFrom 32 = .ok (.aload_n 1, 1) := by decide +kernel
theorem dX5_costFrom_33 : decode cX5_costFrom 33 = .ok (.iload_n 2, 1) := by decide +kernel
theorem dX5_costFrom_34 : decode cX5_costFrom 34 = .ok (.iload 4, 2) := by decide +kernel
theorem dX5_costFrom_36 : decode cX5_costFrom 36 = .ok (.invokevirtual 46, 3) := by decide +kernel
theorem dX5_costFrom_39 : decode cX5_costFrom 39 = .ok (.ifCond .eq 13, 3) := by decide +kernel
theorem dX5_costFrom_42 : decode cX5_costFrom 42 = .ok (.aload_n 0, 1) := by decide +kernel
theorem dX5_costFrom_43 : decode cX5_costFrom 43 = .ok (.getfield 9, 3) := by decide +kernel
theorem dX5_costFrom_46 : decode cX5_costFrom 46 = .ok (.iload 4, 2) := by decide +kernel
theorem dX5_costFrom_48 : decode cX5_costFrom 48 = .ok (.iaload, 1) := by decide +kernel
theorem dX5_costFrom_49 : decode cX5_costFrom 49 = .ok (.goto 5, 3) := by decide +kernel
theorem dX5_costFrom_52 : decode cX5_costFrom 52 = .ok (.ldc 19, 2) := by decide +kernel
theorem dX5_costFrom_54 : decode cX5_costFrom 54 = .ok (.ireturn, 1) := by decide +kernel
theorem dX6_init_0 : decode cX6_init 0 = .ok (.aload_n 0, 1) := by decide +kernel
theorem dX6_init_1 : decode cX6_init 1 = .ok (.invokespecial 3, 3) := by decide +kernel
theorem dX6_init_4 : decode cX6_init 4 = .ok (.aload_n 0, 1) := by decide +kernel
theorem dX6_init_5 : decode cX6_init 5 = .ok (.new 9, 3) := by decide +kernel
theorem dX6_init_8 : decode cX6_init 8 = .ok (.dup, 1) := by decide +kernel
theorem dX6_init_9 : decode cX6_init 9 = .ok (.invokespecial 11, 3) := by decide +kernel
theorem dX6_init_12 : decode cX6_init 12 = .ok (.putfield 12, 3) := by decide +kernel
theorem dX6_init_15 : decode cX6_init 15 = .ok (.aload_n 0, 1) := by decide +kernel
theorem dX6_init_16 : decode cX6_init 16 = .ok (.new 18, 3) := by decide +kernel
theorem dX6_init_19 : decode cX6_init 19 = .ok (.dup, 1) := by decide +kernel
theorem dX6_init_20 : decode cX6_init 20 = .ok (.aload_n 0, 1) := by decide +kernel
theorem dX6_init_21 : decode cX6_init 21 = .ok (.getfield 12, 3) := by decide +kernel
theorem dX6_init_24 : decode cX6_init 24 = .ok (.invokespecial 20, 3) := by decide +kernel
theorem dX6_init_27 : decode cX6_init 27 = .ok (.putfield 23, 3) := by decide +kernel
theorem dX6_init_30 : decode cX6_init 30 = .ok (.aload_n 0, 1) := by decide +kernel
theorem dX6_init_31 : decode cX6_init 31 = .ok (.sipush 240, 3) := by decide +kernel
theorem dX6_init_34 : decode cX6_init 34 = .ok (.newarray .int, 2) := by decide +kernel
theorem dX6_init_36 : decode cX6_init 36 = .ok (.putfield 27, 3) := by decide +kernel
theorem dX6_init_39 : decode cX6_init 39 = .ok (.aload_n 0, 1) := by decide +kernel
theorem dX6_init_40 : decode cX6_init 40 = .ok (.iconst (-1), 1) := by decide +kernel
theorem dX6_init_41 : decode cX6_init 41 = .ok (.putfield 31, 3) := by decide +kernel
theorem dX6_init_44 : decode cX6_init 44 = .ok (.return_, 1) := by decide +kernel
theorem dX6_add_0 : decode cX6_add 0 = .ok (.aload_n 0, 1) := by decide +kernel
theorem dX6_add_1 : decode cX6_add 1 = .ok (.getfield 35, 3) := by decide +kernel
theorem dX6_add_4 : decode cX6_add 4 = .ok (.sipush 240, 3) := by decide +kernel
theorem dX6_add_7 : decode cX6_add 7 = .ok (.if_icmp .lt 5, 3) := by decide +kernel
theorem dX6_add_10 : decode cX6_add 10 = .ok (.iconst 0, 1) := by decide +kernel
theorem dX6_add_11 : decode cX6_add 11 = .ok (.ireturn, 1) := by decide +kernel
theorem dX6_add_12 : decode cX6_add 12 = .ok (.aload_n 0, 1) := by decide +kernel
theorem dX6_add_13 : decode cX6_add 13 = .ok (.getfield 27, 3) := by decide +kernel
theorem dX6_add_16 : decode cX6_add 16 = .ok (.aload_n 0, 1) := by decide +kernel
theorem dX6_add_17 : decode cX6_add 17 = .ok (.getfield 35, 3) := by decide +kernel
theorem dX6_add_20 : decode cX6_add 20 = .ok (.iload_n 1, 1) := by decide +kernel
theorem dX6_add_21 : decode cX6_add 21 = .ok (.iastore, 1) := by decide +kernel
theorem dX6_add_22 : decode cX6_add 22 = .ok (.aload_n 0, 1) := by decide +kernel
theorem dX6_add_23 : decode cX6_add 23 = .ok (.dup, 1) := by decide +kernel
theorem dX6_add_24 : decode cX6_add 24 = .ok (.getfield 35, 3) := by decide +kernel
theorem dX6_add_27 : decode cX6_add 27 = .ok (.iconst 1, 1) := by decide +kernel
theorem dX6_add_28 : decode cX6_add 28 = .ok (.iadd, 1) := by decide +kernel
theorem dX6_add_29 : decode cX6_add 29 = .ok (.putfield 35, 3) := by decide +kernel
theorem dX6_add_32 : decode cX6_add 32 = .ok (.iconst 1, 1) := by decide +kernel
theorem dX6_add_33 : decode cX6_add 33 = .ok (.ireturn, 1) := by decide +kernel
theorem dX6_readAll_0 : decode cX6_readAll 0 = .ok (.aload_n 0, 1) := by decide +kernel
theorem dX6_readAll_1 : decode cX6_readAll 1 = .ok (.getfield 12, 3) := by decide +kernel
theorem dX6_readAll_4 : decode cX6_readAll 4 = .ok (.invokevirtual 38, 3) := by decide +kernel
theorem dX6_readAll_7 : decode cX6_readAll 7 = .ok (.aload_n 0, 1) := by decide +kernel
theorem dX6_readAll_8 : decode cX6_readAll 8 = .ok (.getfield 23, 3) := by decide +kernel
theorem dX6_readAll_11 : decode cX6_readAll 11 = .ok (.invokevirtual 41, 3) := by decide +kernel
theorem dX6_readAll_14 : decode cX6_readAll 14 = .ok (.aload_n 0, 1) := by decide +kernel
theorem dX6_readAll_15 : decode cX6_readAll 15 = .ok (.iconst 0, 1) := by decide +kernel
theorem dX6_readAll_16 : decode cX6_readAll 16 = .ok (.putfield 42, 3) := by decide +kernel
theorem dX6_readAll_19 : decode cX6_readAll 19 = .ok (.aload_n 0, 1) := by decide +kernel
theorem dX6_readAll_20 : decode cX6_readAll 20 = .ok (.iconst (-1), 1) := by decide +kernel
theorem dX6_readAll_21 : decode cX6_readAll 21 = .ok (.putfield 31, 3) := by decide +kernel
theorem dX6_readAll_24 : decode cX6_readAll 24 = .ok (.aload_n 0, 1) := by decide +kernel
theorem dX6_readAll_25 : decode cX6_readAll 25 = .ok (.iconst 0, 1) := by decide +kernel
theorem dX6_readAll_26 : decode cX6_readAll 26 = .ok (.putfield 45, 3) := by decide +kernel
theorem dX6_readAll_29 : decode cX6_readAll 29 = .ok (.aload_n 0, 1) := by decide +kernel
theorem dX6_readAll_30 : decode cX6_readAll 30 = .ok (.invokevirtual 48, 3) := by decide +kernel
theorem dX6_readAll_33 : decode cX6_readAll 33 = .ok (.iconst (-1), 1) := by decide +kernel
theorem dX6_readAll_34 : decode cX6_readAll 34 = .ok (.if_icmp .eq 19, 3) := by decide +kernel
theorem dX6_readAll_37 : decode cX6_readAll 37 = .ok (.aload_n 0, 1) := by decide +kernel
theorem dX6_readAll_38 : decode cX6_readAll 38 = .ok (.getfield 12, 3) := by decide +kernel
theorem dX6_readAll_41 : decode cX6_readAll 41 = .ok (.iconst 1, 1) := by decide +kernel
theorem dX6_readAll_42 : decode cX6_readAll 42 = .ok (.putfield 52, 3) := by decide +kernel
theorem dX6_readAll_45 : decode cX6_readAll 45 = .ok (.aload_n 0, 1) := by decide +kernel
theorem dX6_readAll_46 : decode cX6_readAll 46 = .ok (.invokevirtual 56, 3) := by decide +kernel
theorem dX6_readAll_49 : decode cX6_readAll 49 = .ok (.aload_n 0, 1) := by decide +kernel
theorem dX6_readAll_50 : decode cX6_readAll 50 = .ok (.invokevirtual 59, 3) := by decide +kernel
theorem dX6_readAll_53 : decode cX6_readAll 53 = .ok (.aload_n 0, 1) := by decide +kernel
theorem dX6_readAll_54 : decode cX6_readAll 54 = .ok (.iconst 0, 1) := by decide +kernel
theorem dX6_readAll_55 : decode cX6_readAll 55 = .ok (.putfield 35, 3) := by decide +kernel
theorem dX6_readAll_58 : decode cX6_readAll 58 = .ok (.return_, 1) := by decide +kernel
theorem dX6_readInterest_0 : decode cX6_readInterest 0 = .ok (.aload_n 0, 1) := by decide +kernel
theorem dX6_readInterest_1 : decode cX6_readInterest 1 = .ok (.invokevirtual 48, 3) := by decide +kernel
theorem dX6_readInterest_4 : decode cX6_readInterest 4 = .ok (.bipush 105, 2) := by decide +kernel
theorem dX6_readInterest_6 : decode cX6_readInterest 6 = .ok (.if_icmp .eq 13, 3) := by decide +kernel
theorem dX6_readInterest_9 : decode cX6_readInterest 9 = .ok (.aload_n 0, 1) := by decide +kernel
theorem dX6_readInterest_10 : decode cX6_readInterest 10 = .ok (.iconst 1, 1) := by decide +kernel
theorem dX6_readInterest_11 : decode cX6_readInterest 11 = .ok (.aload_n 0, 1) := by decide +kernel
theorem dX6_readInterest_12 : decode cX6_readInterest 12 = .ok (.getfield 45, 3) := by decide +kernel
theorem dX6_readInterest_15 : decode cX6_readInterest 15 = .ok (.invokevirtual 62, 3) := by decide +kernel
theorem dX6_readInterest_18 : decode cX6_readInterest 18 = .ok (.return_, 1) := by decide +kernel
theorem dX6_readInterest_19 : decode cX6_readInterest 19 = .ok (.aload_n 0, 1) := by decide +kernel
theorem dX6_readInterest_20 : decode cX6_readInterest 20 = .ok (.dup, 1) := by decide +kernel
theorem dX6_readInterest_21 : decode cX6_readInterest 21 = .ok (.getfield 45, 3) := by decide +kernel
theorem dX6_readInterest_24 : decode cX6_readInterest 24 = .ok (.iconst 1, 1) := by decide +kernel
theorem dX6_readInterest_25 : decode cX6_readInterest 25 = .ok (.iadd, 1) := by decide +kernel
theorem dX6_readInterest_26 : decode cX6_readInterest 26 = .ok (.putfield 45, 3) := by decide +kernel
theorem dX6_readInterest_29 : decode cX6_readInterest 29 = .ok (.aload_n 0, 1) := by decide +kernel
theorem dX6_readInterest_30 : decode cX6_readInterest 30 = .ok (.getfield 12, 3) := by decide +kernel
theorem dX6_readInterest_33 : decode cX6_readInterest 33 = .ok (.aload_n 0, 1) := by decide +kernel
theorem dX6_readInterest_34 : decode cX6_readInterest 34 = .ok (.iconst 0, 1) := by decide +kernel
theorem dX6_readInterest_35 : decode cX6_readInterest 35 = .ok (.bipush 30, 2) := by decide +kernel
theorem dX6_readInterest_37 : decode cX6_readInterest 37 = .ok (.invokevirtual 66, 3) := by decide +kernel
theorem dX6_readInterest_40 : decode cX6_readInterest 40 = .ok (.putfield 70, 3) := by decide +kernel
theorem dX6_readInterest_43 : decode cX6_readInterest 43 = .ok (.aload_n 0, 1) := by decide +kernel
theorem dX6_readInterest_44 : decode cX6_readInterest 44 = .ok (.getfield 12, 3) := by decide +kernel
theorem dX6_readInterest_47 : decode cX6_readInterest 47 = .ok (.aload_n 0, 1) := by decide +kernel
theorem dX6_readInterest_48 : decode cX6_readInterest 48 = .ok (.iconst 0, 1) := by decide +kernel
theorem dX6_readInterest_49 : decode cX6_readInterest 49 = .ok (.bipush 100, 2) := by decide +kernel
theorem dX6_readInterest_51 : decode cX6_readInterest 51 = .ok (.invokevirtual 66, 3) := by decide +kernel
theorem dX6_readInterest_54 : decode cX6_readInterest 54 = .ok (.putfield 73, 3) := by decide +kernel
theorem dX6_readInterest_57 : decode cX6_readInterest 57 = .ok (.aload_n 0, 1) := by decide +kernel
theorem dX6_readInterest_58 : decode cX6_readInterest 58 = .ok (.bipush 59, 2) := by decide +kernel
theorem dX6_readInterest_60 : decode cX6_readInterest 60 = .ok (.invokevirtual 76, 3) := by decide +kernel
theorem dX6_readInterest_63 : decode cX6_readInterest 63 = .ok (.return_, 1) := by decide +kernel
theorem dX6_readOthers_0 : decode cX6_readOthers 0 = .ok (.iconst 0, 1) := by decide +kernel
theorem dX6_readOthers_1 : decode cX6_readOthers 1 = .ok (.istore_n 1, 1) := by decide +kernel
theorem dX6_readOthers_2 : decode cX6_readOthers 2 = .ok (.iload_n 1, 1) := by decide +kernel
theorem dX6_readOthers_3 : decode cX6_readOthers 3 = .ok (.sipush 240, 3) := by decide +kernel
theorem dX6_readOthers_6 : decode cX6_readOthers 6 = .ok (.if_icmp .ge 32, 3) := by decide +kernel
theorem dX6_readOthers_9 : decode cX6_readOthers 9 = .ok (.aload_n 0, 1) := by decide +kernel
theorem dX6_readOthers_10 : decode cX6_readOthers 10 = .ok (.getfield 42, 3) := by decide +kernel
theorem dX6_readOthers_13 : decode cX6_readOthers 13 = .ok (.ifCond .ne 25, 3) := by decide +kernel
theorem dX6_readOthers_16 : decode cX6_readOthers 16 = .ok (.aload_n 0, 1) := by decide +kernel
theorem dX6_readOthers_17 : decode cX6_readOthers 17 = .ok (.invokevirtual 48, 3) := by decide +kernel
theorem dX6_readOthers_20 : decode cX6_readOthers 20 = .ok (.istore_n 2, 1) := by decide +kernel
theorem dX6_readOthers_21 : decode cX6_readOthers 21 = .ok (.iload_n 2, 1) := by decide +kernel
theorem dX6_readOthers_22 : decode cX6_readOthers 22 = .ok (.iconst (-1), 1) := by decide +kernel
theorem dX6_readOthers_23 : decode cX6_readOthers 23 = .ok (.if_icmp .ne 4, 3) := by decide +kernel
theorem dX6_readOthers_26 : decode cX6_readOthers 26 = .ok (.return_, 1) := by decide +kernel
theorem dX6_readOthers_27 : decode cX6_readOthers 27 = .ok (.aload_n 0, 1) := by decide +kernel
theorem dX6_readOthers_28 : decode cX6_readOthers 28 = .ok (.iload_n 2, 1) := by decide +kernel
theorem dX6_readOthers_29 : decode cX6_readOthers 29 = .ok (.invokevirtual 80, 3) := by decide +kernel
theorem dX6_readOthers_32 : decode cX6_readOthers 32 = .ok (.iinc 1 1, 3) := by decide +kernel
theorem dX6_readOthers_35 : decode cX6_readOthers 35 = .ok (.goto (-33), 3) := by decide +kernel
theorem dX6_readOthers_38 : decode cX6_readOthers 38 = .ok (.return_, 1) := by decide +kernel
theorem dX6_readClause_0 : decode cX6_readClause 0 = .ok (.iload_n 1, 1) := by decide +kernel
theorem dX6_readClause_1 : decode cX6_readClause 1 = .ok (.bipush 99, 2) := by decide +kernel
theorem dX6_readClause_3 : decode cX6_readClause 3 = .ok (.if_icmp .ne 10, 3) := by decide +kernel
theorem dX6_readClause_6 : decode cX6_readClause 6 = .ok (.aload_n 0, 1) := by decide +kernel
theorem dX6_readClause_7 : decode cX6_readClause 7 = .ok (.invokevirtual 83, 3) := by decide +kernel
theorem dX6_readClause_10 : decode cX6_readClause 10 = .ok (.goto 52, 3) := by decide +kernel
theorem dX6_readClause_13 : decode cX6_readClause 13 = .ok (.iload_n 1, 1) := by decide +kernel
theorem dX6_readClause_14 : decode cX6_readClause 14 = .ok (.bipush 103, 2) := by decide +kernel
theorem dX6_readClause_16 : decode cX6_readClause 16 = .ok (.if_icmp .eq 9, 3) := by decide +kernel
theorem dX6_readClause_19 : decode cX6_readClause 19 = .ok (.iload_n 1, 1) := by decide +kernel
theorem dX6_readClause_20 : decode cX6_readClause 20 = .ok (.bipush 109, 2) := by decide +kernel
theorem dX6_readClause_22 : decode cX6_readClause 22 = .ok (.if_icmp .ne 21, 3) := by decide +kernel
theorem dX6_readClause_25 : decode cX6_readClause 25 = .ok (.aload_n 0, 1) := by decide +kernel
theorem dX6_readClause_26 : decode cX6_readClause 26 = .ok (.iload_n 1, 1) := by decide +kernel
theorem dX6_readClause_27 : decode cX6_readClause 27 = .ok (.bipush 103, 2) := by decide +kernel
theorem dX6_readClause_29 : decode cX6_readClause 29 = .ok (.if_icmp .ne 7, 3) := by decide +kernel
theorem dX6_readClause_32 : decode cX6_readClause 32 = .ok (.iconst 1, 1) := by decide +kernel
theorem dX6_readClause_33 : decode cX6_readClause 33 = .ok (.goto 4, 3) := by decide +kernel
theorem dX6_readClause_36 : decode cX6_readClause 36 = .ok (.iconst 0, 1) := by decide +kernel
theorem dX6_readClause_37 : decode cX6_readClause 37 = .ok (.invokevirtual 86, 3) := by decide +kernel
theorem dX6_readClause_40 : decode cX6_readClause 40 = .ok (.goto 22, 3) := by decide +kernel
theorem dX6_readClause_43 : decode cX6_readClause 43 = .ok (.aload_n 0, 1) := by decide +kernel
theorem dX6_readClause_44 : decode cX6_readClause 44 = .ok (.iload_n 1, 1) := by decide +kernel
theorem dX6_readClause_45 : decode cX6_readClause 45 = .ok (.bipush 105, 2) := by decide +kernel
theorem dX6_readClause_47 : decode cX6_readClause 47 = .ok (.if_icmp .ne 7, 3) := by decide +kernel
theorem dX6_readClause_50 : decode cX6_readClause 50 = .ok (.iconst 3, 1) := by decide +kernel
theorem dX6_readClause_51 : decode cX6_readClause 51 = .ok (.goto 4, 3) := by decide +kernel
theorem dX6_readClause_54 : decode cX6_readClause 54 = .ok (.iconst 1, 1) := by decide +kernel
theorem dX6_readClause_55 : decode cX6_readClause 55 = .ok (.aload_n 0, 1) := by decide +kernel
theorem dX6_readClause_56 : decode cX6_readClause 56 = .ok (.getfield 45, 3) := by decide +kernel
theorem dX6_readClause_59 : decode cX6_readClause 59 = .ok (.invokevirtual 62, 3) := by decide +kernel
theorem dX6_readClause_62 : decode cX6_readClause 62 = .ok (.return_, 1) := by decide +kernel
theorem dX6_readCreditor_0 : decode cX6_readCreditor 0 = .ok (.aload_n 0, 1) := by decide +kernel
theorem dX6_readCreditor_1 : decode cX6_readCreditor 1 = .ok (.getfield 12, 3) := by decide +kernel
theorem dX6_readCreditor_4 : decode cX6_readCreditor 4 = .ok (.getfield 90, 3) := by decide +kernel
theorem dX6_readCreditor_7 : decode cX6_readCreditor 7 = .ok (.istore_n 1, 1) := by decide +kernel
theorem dX6_readCreditor_8 : decode cX6_readCreditor 8 = .ok (.iload_n 1, 1) := by decide +kernel
theorem dX6_readCreditor_9 : decode cX6_readCreditor 9 = .ok (.iconst 4, 1) := by decide +kernel
theorem dX6_readCreditor_10 : decode cX6_readCreditor 10 = .ok (.if_icmp .ge 13, 3) := by decide +kernel
theorem dX6_readCreditor_13 : decode cX6_readCreditor 13 = .ok (.aload_n 0, 1) := by decide +kernel
theorem dX6_readCreditor_14 : decode cX6_readCreditor 14 = .ok (.getfield 12, 3) := by decide +kernel
theorem dX6_readCreditor_17 : decode cX6_readCreditor 17 = .ok (.getfield 93, 3) := by decide +kernel
theorem dX6_readCreditor_20 : decode cX6_readCreditor 20 = .ok (.ifCond .le 13, 3) := by decide +kernel
theorem dX6_readCreditor_23 : decode cX6_readCreditor 23 = .ok (.aload_n 0, 1) := by decide +kernel
theorem dX6_readCreditor_24 : decode cX6_readCreditor 24 = .ok (.iconst 3, 1) := by decide +kernel
theorem dX6_readCreditor_25 : decode cX6_readCreditor 25 = .ok (.aload_n 0, 1) := by decide +kernel
theorem dX6_readCreditor_26 : decode cX6_readCreditor 26 = .ok (.getfield 45, 3) := by decide +kernel
theorem dX6_readCreditor_29 : decode cX6_readCreditor 29 = .ok (.invokevirtual 62, 3) := by decide +kernel
theorem dX6_readCreditor_32 : decode cX6_readCreditor 32 = .ok (.return_, 1) := by decide +kernel
theorem dX6_readCreditor_33 : decode cX6_readCreditor 33 = .ok (.aload_n 0, 1) := by decide +kernel
theorem dX6_readCreditor_34 : decode cX6_readCreditor 34 = .ok (.dup, 1) := by decide +kernel
theorem dX6_readCreditor_35 : decode cX6_readCreditor 35 = .ok (.getfield 45, 3) := by decide +kernel
theorem dX6_readCreditor_38 : decode cX6_readCreditor 38 = .ok (.iconst 1, 1) := by decide +kernel
theorem dX6_readCreditor_39 : decode cX6_readCreditor 39 = .ok (.iadd, 1) := by decide +kernel
theorem dX6_readCreditor_40 : decode cX6_readCreditor 40 = .ok (.putfield 45, 3) := by decide +kernel
theorem dX6_readCreditor_43 : decode cX6_readCreditor 43 = .ok (.aload_n 0, 1) := by decide +kernel
theorem dX6_readCreditor_44 : decode cX6_readCreditor 44 = .ok (.getfield 23, 3) := by decide +kernel
theorem dX6_readCreditor_47 : decode cX6_readCreditor 47 = .ok (.getfield 96, 3) := by decide +kernel
theorem dX6_readCreditor_50 : decode cX6_readCreditor 50 = .ok (.iload_n 1, 1) := by decide +kernel
theorem dX6_readCreditor_51 : decode cX6_readCreditor 51 = .ok (.aload_n 0, 1) := by decide +kernel
theorem dX6_readCreditor_52 : decode cX6_readCreditor 52 = .ok (.iconst 0, 1) := by decide +kernel
theorem dX6_readCreditor_53 : decode cX6_readCreditor 53 = .ok (.sipush 999, 3) := by decide +kernel
theorem dX6_readCreditor_56 : decode cX6_readCreditor 56 = .ok (.invokevirtual 66, 3) := by decide +kernel
theorem dX6_readCreditor_59 : decode cX6_readCreditor 59 = .ok (.iastore, 1) := by decide +kernel
theorem dX6_readCreditor_60 : decode cX6_readCreditor 60 = .ok (.aload_n 0, 1) := by decide +kernel
theorem dX6_readCreditor_61 : decode cX6_readCreditor 61 = .ok (.getfield 12, 3) := by decide +kernel
theorem dX6_readCreditor_64 : decode cX6_readCreditor 64 = .ok (.getfield 99, 3) := by decide +kernel
theorem dX6_readCreditor_67 : decode cX6_readCreditor 67 = .ok (.iload_n 1, 1) := by decide +kernel
theorem dX6_readCreditor_68 : decode cX6_readCreditor 68 = .ok (.aload_n 0, 1) := by decide +kernel
theorem dX6_readCreditor_69 : decode cX6_readCreditor 69 = .ok (.iconst 1, 1) := by decide +kernel
theorem dX6_readCreditor_70 : decode cX6_readCreditor 70 = .ok (.sipush 999, 3) := by decide +kernel
theorem dX6_readCreditor_73 : decode cX6_readCreditor 73 = .ok (.invokevirtual 66, 3) := by decide +kernel
theorem dX6_readCreditor_76 : decode cX6_readCreditor 76 = .ok (.iastore, 1) := by decide +kernel
theorem dX6_readCreditor_77 : decode cX6_readCreditor 77 = .ok (.aload_n 0, 1) := by decide +kernel
theorem dX6_readCreditor_78 : decode cX6_readCreditor 78 = .ok (.getfield 12, 3) := by decide +kernel
theorem dX6_readCreditor_81 : decode cX6_readCreditor 81 = .ok (.getfield 102, 3) := by decide +kernel
theorem dX6_readCreditor_84 : decode cX6_readCreditor 84 = .ok (.iload_n 1, 1) := by decide +kernel
theorem dX6_readCreditor_85 : decode cX6_readCreditor 85 = .ok (.aload_n 0, 1) := by decide +kernel
theorem dX6_readCreditor_86 : decode cX6_readCreditor 86 = .ok (.iconst 1, 1) := by decide +kernel
theorem dX6_readCreditor_87 : decode cX6_readCreditor 87 = .ok (.sipush 999, 3) := by decide +kernel
theorem dX6_readCreditor_90 : decode cX6_readCreditor 90 = .ok (.invokevirtual 66, 3) := by decide +kernel
theorem dX6_readCreditor_93 : decode cX6_readCreditor 93 = .ok (.iastore, 1) := by decide +kernel
theorem dX6_readCreditor_94 : decode cX6_readCreditor 94 = .ok (.aload_n 0, 1) := by decide +kernel
theorem dX6_readCreditor_95 : decode cX6_readCreditor 95 = .ok (.getfield 12, 3) := by decide +kernel
theorem dX6_readCreditor_98 : decode cX6_readCreditor 98 = .ok (.getfield 102, 3) := by decide +kernel
theorem dX6_readCreditor_101 : decode cX6_readCreditor 101 = .ok (.iload_n 1, 1) := by decide +kernel
theorem dX6_readCreditor_102 : decode cX6_readCreditor 102 = .ok (.iaload, 1) := by decide +kernel
theorem dX6_readCreditor_103 : decode cX6_readCreditor 103 = .ok (.aload_n 0, 1) := by decide +kernel
theorem dX6_readCreditor_104 : decode cX6_readCreditor 104 = .ok (.getfield 12, 3) := by decide +kernel
theorem dX6_readCreditor_107 : decode cX6_readCreditor 107 = .ok (.getfield 99, 3) := by decide +kernel
theorem dX6_readCreditor_110 : decode cX6_readCreditor 110 = .ok (.iload_n 1, 1) := by decide +kernel
theorem dX6_readCreditor_111 : decode cX6_readCreditor 111 = .ok (.iaload, 1) := by decide +kernel
theorem dX6_readCreditor_112 : decode cX6_readCreditor 112 = .ok (.if_icmp .ge 12, 3) := by decide +kernel
theorem dX6_readCreditor_115 : decode cX6_readCreditor 115 = .ok (.aload_n 0, 1) := by decide +kernel
theorem dX6_readCreditor_116 : decode cX6_readCreditor 116 = .ok (.iconst 4, 1) := by decide +kernel
theorem dX6_readCreditor_117 : decode cX6_readCreditor 117 = .ok (.aload_n 0, 1) := by decide +kernel
theorem dX6_readCreditor_118 : decode cX6_readCreditor 118 = .ok (.getfield 105, 3) := by decide +kernel
theorem dX6_readCreditor_121 : decode cX6_readCreditor 121 = .ok (.invokevirtual 62, 3) := by decide +kernel
theorem dX6_readCreditor_124 : decode cX6_readCreditor 124 = .ok (.aload_n 0, 1) := by decide +kernel
theorem dX6_readCreditor_125 : decode cX6_readCreditor 125 = .ok (.getfield 12, 3) := by decide +kernel
theorem dX6_readCreditor_128 : decode cX6_readCreditor 128 = .ok (.getfield 108, 3) := by decide +kernel
theorem dX6_readCreditor_131 : decode cX6_readCreditor 131 = .ok (.iload_n 1, 1) := by decide +kernel
theorem dX6_readCreditor_132 : decode cX6_readCreditor 132 = .ok (.aload_n 0, 1) := by decide +kernel
theorem dX6_readCreditor_133 : decode cX6_readCreditor 133 = .ok (.iconst 1, 1) := by decide +kernel
theorem dX6_readCreditor_134 : decode cX6_readCreditor 134 = .ok (.bipush 9, 2) := by decide +kernel
theorem dX6_readCreditor_136 : decode cX6_readCreditor 136 = .ok (.invokevirtual 66, 3) := by decide +kernel
theorem dX6_readCreditor_139 : decode cX6_readCreditor 139 = .ok (.iastore, 1) := by decide +kernel
theorem dX6_readCreditor_140 : decode cX6_readCreditor 140 = .ok (.aload_n 0, 1) := by decide +kernel
theorem dX6_readCreditor_141 : decode cX6_readCreditor 141 = .ok (.bipush 59, 2) := by decide +kernel
theorem dX6_readCreditor_143 : decode cX6_readCreditor 143 = .ok (.invokevirtual 76, 3) := by decide +kernel
theorem dX6_readCreditor_146 : decode cX6_readCreditor 146 = .ok (.aload_n 0, 1) := by decide +kernel
theorem dX6_readCreditor_147 : decode cX6_readCreditor 147 = .ok (.getfield 12, 3) := by decide +kernel
theorem dX6_readCreditor_150 : decode cX6_readCreditor 150 = .ok (.dup, 1) := by decide +kernel
theorem dX6_readCreditor_151 : decode cX6_readCreditor 151 = .ok (.getfield 90, 3) := by decide +kernel
theorem dX6_readCreditor_154 : decode cX6_readCreditor 154 = .ok (.iconst 1, 1) := by decide +kernel
theorem dX6_readCreditor_155 : decode cX6_readCreditor 155 = .ok (.iadd, 1) := by decide +kernel
theorem dX6_readCreditor_156 : decode cX6_readCreditor 156 = .ok (.putfield 90, 3) := by decide +kernel
theorem dX6_readCreditor_159 : decode cX6_readCreditor 159 = .ok (.return_, 1) := by decide +kernel
theorem dX6_readPerson_0 : decode cX6_readPerson 0 = .ok (.aload_n 0, 1) := by decide +kernel
theorem dX6_readPerson_1 : decode cX6_readPerson 1 = .ok (.getfield 12, 3) := by decide +kernel
theorem dX6_readPerson_4 : decode cX6_readPerson 4 = .ok (.getfield 93, 3) := by decide +kernel
theorem dX6_readPerson_7 : decode cX6_readPerson 7 = .ok (.istore_n 2, 1) := by decide +kernel
theorem dX6_readPerson_8 : decode cX6_readPerson 8 = .ok (.iload_n 2, 1) := by decide +kernel
theorem dX6_readPerson_9 : decode cX6_readPerson 9 = .ok (.bipush 8, 2) := by decide +kernel
theorem dX6_readPerson_11 : decode cX6_readPerson 11 = .ok (.if_icmp .ge 13, 3) := by decide +kernel
theorem dX6_readPerson_14 : decode cX6_readPerson 14 = .ok (.aload_n 0, 1) := by decide +kernel
theorem dX6_readPerson_15 : decode cX6_readPerson 15 = .ok (.getfield 12, 3) := by decide +kernel
theorem dX6_readPerson_18 : decode cX6_readPerson 18 = .ok (.getfield 90, 3) := by decide +kernel
theorem dX6_readPerson_21 : decode cX6_readPerson 21 = .ok (.ifCond .ne 13, 3) := by decide +kernel
theorem dX6_readPerson_24 : decode cX6_readPerson 24 = .ok (.aload_n 0, 1) := by decide +kernel
theorem dX6_readPerson_25 : decode cX6_readPerson 25 = .ok (.iconst 3, 1) := by decide +kernel
theorem dX6_readPerson_26 : decode cX6_readPerson 26 = .ok (.aload_n 0, 1) := by decide +kernel
theorem dX6_readPerson_27 : decode cX6_readPerson 27 = .ok (.getfield 45, 3) := by decide +kernel
theorem dX6_readPerson_30 : decode cX6_readPerson 30 = .ok (.invokevirtual 62, 3) := by decide +kernel
theorem dX6_readPerson_33 : decode cX6_readPerson 33 = .ok (.return_, 1) := by decide +kernel
theorem dX6_readPerson_34 : decode cX6_readPerson 34 = .ok (.aload_n 0, 1) := by decide +kernel
theorem dX6_readPerson_35 : decode cX6_readPerson 35 = .ok (.dup, 1) := by decide +kernel
theorem dX6_readPerson_36 : decode cX6_readPerson 36 = .ok (.getfield 45, 3) := by decide +kernel
theorem dX6_readPerson_39 : decode cX6_readPerson 39 = .ok (.iconst 1, 1) := by decide +kernel
theorem dX6_readPerson_40 : decode cX6_readPerson 40 = .ok (.iadd, 1) := by decide +kernel
theorem dX6_readPerson_41 : decode cX6_readPerson 41 = .ok (.putfield 45, 3) := by decide +kernel
theorem dX6_readPerson_44 : decode cX6_readPerson 44 = .ok (.iconst 0, 1) := by decide +kernel
theorem dX6_readPerson_45 : decode cX6_readPerson 45 = .ok (.istore_n 3, 1) := by decide +kernel
theorem dX6_readPerson_46 : decode cX6_readPerson 46 = .ok (.iload_n 3, 1) := by decide +kernel
theorem dX6_readPerson_47 : decode cX6_readPerson 47 = .ok (.aload_n 0, 1) := by decide +kernel
theorem dX6_readPerson_48 : decode cX6_readPerson 48 = .ok (.getfield 12, 3) := by decide +kernel
theorem dX6_readPerson_51 : decode cX6_readPerson 51 = .ok (.getfield 90, 3) := by decide +kernel
theorem dX6_readPerson_54 : decode cX6_readPerson 54 = .ok (.if_icmp .ge 36, 3) := by decide +kernel
theorem dX6_readPerson_57 : decode cX6_readPerson 57 = .ok (.iload_n 3, 1) := by decide +kernel
theorem dX6_readPerson_58 : decode cX6_readPerson 58 = .ok (.ifCond .le 9, 3) := by decide +kernel
theorem dX6_readPerson_61 : decode cX6_readPerson 61 = .ok (.aload_n 0, 1) := by decide +kernel
theorem dX6_readPerson_62 : decode cX6_readPerson 62 = .ok (.bipush 44, 2) := by decide +kernel
theorem dX6_readPerson_64 : decode cX6_readPerson 64 = .ok (.invokevirtual 76, 3) := by decide +kernel
theorem dX6_readPerson_67 : decode cX6_readPerson 67 = .ok (.aload_n 0, 1) := by decide +kernel
theorem dX6_readPerson_68 : decode cX6_readPerson 68 = .ok (.getfield 23, 3) := by decide +kernel
theorem dX6_readPerson_71 : decode cX6_readPerson 71 = .ok (.iload_n 2, 1) := by decide +kernel
theorem dX6_readPerson_72 : decode cX6_readPerson 72 = .ok (.iload_n 3, 1) := by decide +kernel
theorem dX6_readPerson_73 : decode cX6_readPerson 73 = .ok (.aload_n 0, 1) := by decide +kernel
theorem dX6_readPerson_74 : decode cX6_readPerson 74 = .ok (.iconst 0, 1) := by decide +kernel
theorem dX6_readPerson_75 : decode cX6_readPerson 75 = .ok (.sipush 999, 3) := by decide +kernel
theorem dX6_readPerson_78 : decode cX6_readPerson 78 = .ok (.invokevirtual 66, 3) := by decide +kernel
theorem dX6_readPerson_81 : decode cX6_readPerson 81 = .ok (.invokevirtual 111, 3) := by decide +kernel
theorem dX6_readPerson_84 : decode cX6_readPerson 84 = .ok (.iinc 3 1, 3) := by decide +kernel
theorem dX6_readPerson_87 : decode cX6_readPerson 87 = .ok (.goto (-41), 3) := by decide +kernel
theorem dX6_readPerson_90 : decode cX6_readPerson 90 = .ok (.aload_n 0, 1) := by decide +kernel
theorem dX6_readPerson_91 : decode cX6_readPerson 91 = .ok (.bipush 59, 2) := by decide +kernel
theorem dX6_readPerson_93 : decode cX6_readPerson 93 = .ok (.invokevirtual 76, 3) := by decide +kernel
theorem dX6_readPerson_96 : decode cX6_readPerson 96 = .ok (.iload_n 1, 1) := by decide +kernel
theorem dX6_readPerson_97 : decode cX6_readPerson 97 = .ok (.ifCond .eq 18, 3) := by decide +kernel
theorem dX6_readPerson_100 : decode cX6_readPerson 100 = .ok (.aload_n 0, 1) := by decide +kernel
theorem dX6_readPerson_101 : decode cX6_readPerson 101 = .ok (.getfield 12, 3) := by decide +kernel
theorem dX6_readPerson_104 : decode cX6_readPerson 104 = .ok (.dup, 1) := by decide +kernel
theorem dX6_readPerson_105 : decode cX6_readPerson 105 = .ok (.getfield 115, 3) := by decide +kernel
theorem dX6_readPerson_108 : decode cX6_readPerson 108 = .ok (.iconst 1, 1) := by decide +kernel
theorem dX6_readPerson_109 : decode cX6_readPerson 109 = .ok (.iload_n 2, 1) := by decide +kernel
theorem dX6_readPerson_110 : decode cX6_readPerson 110 = .ok (.ishl, 1) := by decide +kernel
theorem dX6_readPerson_111 : decode cX6_readPerson 111 = .ok (.ior, 1) := by decide +kernel
theorem dX6_readPerson_112 : decode cX6_readPerson 112 = .ok (.putfield 115, 3) := by decide +kernel
theorem dX6_readPerson_115 : decode cX6_readPerson 115 = .ok (.aload_n 0, 1) := by decide +kernel
theorem dX6_readPerson_116 : decode cX6_readPerson 116 = .ok (.getfield 12, 3) := by decide +kernel
theorem dX6_readPerson_119 : decode cX6_readPerson 119 = .ok (.dup, 1) := by decide +kernel
theorem dX6_readPerson_120 : decode cX6_readPerson 120 = .ok (.getfield 93, 3) := by decide +kernel
theorem dX6_readPerson_123 : decode cX6_readPerson 123 = .ok (.iconst 1, 1) := by decide +kernel
theorem dX6_readPerson_124 : decode cX6_readPerson 124 = .ok (.iadd, 1) := by decide +kernel
theorem dX6_readPerson_125 : decode cX6_readPerson 125 = .ok (.putfield 93, 3) := by decide +kernel
theorem dX6_readPerson_128 : decode cX6_readPerson 128 = .ok (.return_, 1) := by decide +kernel
theorem dX6_nextSign_0 : decode cX6_nextSign 0 = .ok (.aload_n 0, 1) := by decide +kernel
theorem dX6_nextSign_1 : decode cX6_nextSign 1 = .ok (.getfield 45, 3) := by decide +kernel
theorem dX6_nextSign_4 : decode cX6_nextSign 4 = .ok (.aload_n 0, 1) := by decide +kernel
theorem dX6_nextSign_5 : decode cX6_nextSign 5 = .ok (.getfield 35, 3) := by decide +kernel
theorem dX6_nextSign_8 : decode cX6_nextSign 8 = .ok (.if_icmp .ge 30, 3) := by decide +kernel
theorem dX6_nextSign_11 : decode cX6_nextSign 11 = .ok (.aload_n 0, 1) := by decide +kernel
theorem dX6_nextSign_12 : decode cX6_nextSign 12 = .ok (.getfield 27, 3) := by decide +kernel
theorem dX6_nextSign_15 : decode cX6_nextSign 15 = .ok (.aload_n 0, 1) := by decide +kernel
theorem dX6_nextSign_16 : decode cX6_nextSign 16 = .ok (.getfield 45, 3) := by decide +kernel
theorem dX6_nextSign_19 : decode cX6_nextSign 19 = .ok (.iaload, 1) := by decide +kernel
theorem dX6_nextSign_20 : decode cX6_nextSign 20 = .ok (.bipush 32, 2) := by decide +kernel
theorem dX6_nextSign_22 : decode cX6_nextSign 22 = .ok (.if_icmp .ne 16, 3) := by decide +kernel
theorem dX6_nextSign_25 : decode cX6_nextSign 25 = .ok (.aload_n 0, 1) := by decide +kernel
theorem dX6_nextSign_26 : decode cX6_nextSign 26 = .ok (.dup, 1) := by decide +kernel
theorem dX6_nextSign_27 : decode cX6_nextSign 27 = .ok (.getfield 45, 3) := by decide +kernel
theorem dX6_nextSign_30 : decode cX6_nextSign 30 = .ok (.iconst 1, 1) := by decide +kernel
theorem dX6_nextSign_31 : decode cX6_nextSign 31 = .ok (.iadd, 1) := by decide +kernel
theorem dX6_nextSign_32 : decode cX6_nextSign 32 = .ok (.putfield 45, 3) := by decide +kernel
theorem dX6_nextSign_35 : decode cX6_nextSign 35 = .ok (.goto (-35), 3) := by decide +kernel
theorem dX6_nextSign_38 : decode cX6_nextSign 38 = .ok (.aload_n 0, 1) := by decide +kernel
theorem dX6_nextSign_39 : decode cX6_nextSign 39 = .ok (.getfield 45, 3) := by decide +kernel
theorem dX6_nextSign_42 : decode cX6_nextSign 42 = .ok (.aload_n 0, 1) := by decide +kernel
theorem dX6_nextSign_43 : decode cX6_nextSign 43 = .ok (.getfield 35, 3) := by decide +kernel
theorem dX6_nextSign_46 : decode cX6_nextSign 46 = .ok (.if_icmp .ge 15, 3) := by decide +kernel
theorem dX6_nextSign_49 : decode cX6_nextSign 49 = .ok (.aload_n 0, 1) := by decide +kernel
theorem dX6_nextSign_50 : decode cX6_nextSign 50 = .ok (.getfield 27, 3) := by decide +kernel
theorem dX6_nextSign_53 : decode cX6_nextSign 53 = .ok (.aload_n 0, 1) := by decide +kernel
theorem dX6_nextSign_54 : decode cX6_nextSign 54 = .ok (.getfield 45, 3) := by decide +kernel
theorem dX6_nextSign_57 : decode cX6_nextSign 57 = .ok (.iaload, 1) := by decide +kernel
theorem dX6_nextSign_58 : decode cX6_nextSign 58 = .ok (.goto 4, 3) := by decide +kernel
theorem dX6_nextSign_61 : decode cX6_nextSign 61 = .ok (.iconst (-1), 1) := by decide +kernel
theorem dX6_nextSign_62 : decode cX6_nextSign 62 = .ok (.ireturn, 1) := by decide +kernel
theorem dX6_readSign_0 : decode cX6_readSign 0 = .ok (.aload_n 0, 1) := by decide +kernel
theorem dX6_readSign_1 : decode cX6_readSign 1 = .ok (.invokevirtual 48, 3) := by decide +kernel
theorem dX6_readSign_4 : decode cX6_readSign 4 = .ok (.iload_n 1, 1) := by decide +kernel
theorem dX6_readSign_5 : decode cX6_readSign 5 = .ok (.if_icmp .ne 16, 3) := by decide +kernel
theorem dX6_readSign_8 : decode cX6_readSign 8 = .ok (.aload_n 0, 1) := by decide +kernel
theorem dX6_readSign_9 : decode cX6_readSign 9 = .ok (.dup, 1) := by decide +kernel
theorem dX6_readSign_10 : decode cX6_readSign 10 = .ok (.getfield 45, 3) := by decide +kernel
theorem dX6_readSign_13 : decode cX6_readSign 13 = .ok (.iconst 1, 1) := by decide +kernel
theorem dX6_readSign_14 : decode cX6_readSign 14 = .ok (.iadd, 1) := by decide +kernel
theorem dX6_readSign_15 : decode cX6_readSign 15 = .ok (.putfield 45, 3) := by decide +kernel
theorem dX6_readSign_18 : decode cX6_readSign 18 = .ok (.goto 12, 3) := by decide +kernel
theorem dX6_readSign_21 : decode cX6_readSign 21 = .ok (.aload_n 0, 1) := by decide +kernel
theorem dX6_readSign_22 : decode cX6_readSign 22 = .ok (.iconst 1, 1) := by decide +kernel
theorem dX6_readSign_23 : decode cX6_readSign 23 = .ok (.aload_n 0, 1) := by decide +kernel
theorem dX6_readSign_24 : decode cX6_readSign 24 = .ok (.getfield 45, 3) := by decide +kernel
theorem dX6_readSign_27 : decode cX6_readSign 27 = .ok (.invokevirtual 62, 3) := by decide +kernel
theorem dX6_readSign_30 : decode cX6_readSign 30 = .ok (.return_, 1) := by decide +kernel
theorem dX6_readNumber_0 : decode cX6_readNumber 0 = .ok (.aload_n 0, 1) := by decide +kernel
theorem dX6_readNumber_1 : decode cX6_readNumber 1 = .ok (.invokevirtual 48, 3) := by decide +kernel
theorem dX6_readNumber_4 : decode cX6_readNumber 4 = .ok (.istore_n 3, 1) := by decide +kernel
theorem dX6_readNumber_5 : decode cX6_readNumber 5 = .ok (.aload_n 0, 1) := by decide +kernel
theorem dX6_readNumber_6 : decode cX6_readNumber 6 = .ok (.aload_n 0, 1) := by decide +kernel
theorem dX6_readNumber_7 : decode cX6_readNumber 7 = .ok (.getfield 45, 3) := by decide +kernel
theorem dX6_readNumber_10 : decode cX6_readNumber 10 = .ok (.putfield 105, 3) := by decide +kernel
theorem dX6_readNumber_13 : decode cX6_readNumber 13 = .ok (.iload_n 3, 1) := by decide +kernel
theorem dX6_readNumber_14 : decode cX6_readNumber 14 = .ok (.invokestatic 118, 3) := by decide +kernel
theorem dX6_readNumber_17 : decode cX6_readNumber 17 = .ok (.ifCond .ne 14, 3) := by decide +kernel
theorem dX6_readNumber_20 : decode cX6_readNumber 20 = .ok (.aload_n 0, 1) := by decide +kernel
theorem dX6_readNumber_21 : decode cX6_readNumber 21 = .ok (.iconst 1, 1) := by decide +kernel
theorem dX6_readNumber_22 : decode cX6_readNumber 22 = .ok (.aload_n 0, 1) := by decide +kernel
theorem dX6_readNumber_23 : decode cX6_readNumber 23 = .ok (.getfield 45, 3) := by decide +kernel
theorem dX6_readNumber_26 : decode cX6_readNumber 26 = .ok (.invokevirtual 62, 3) := by decide +kernel
theorem dX6_readNumber_29 : decode cX6_readNumber 29 = .ok (.iconst 0, 1) := by decide +kernel
theorem dX6_readNumber_30 : decode cX6_readNumber 30 = .ok (.ireturn, 1) := by decide +kernel
theorem dX6_readNumber_31 : decode cX6_readNumber 31 = .ok (.iconst 0, 1) := by decide +kernel
theorem dX6_readNumber_32 : decode cX6_readNumber 32 = .ok (.istore 4, 2) := by decide +kernel
theorem dX6_readNumber_34 : decode cX6_readNumber 34 = .ok (.aload_n 0, 1) := by decide +kernel
theorem dX6_readNumber_35 : decode cX6_readNumber 35 = .ok (.getfield 45, 3) := by decide +kernel
theorem dX6_readNumber_38 : decode cX6_readNumber 38 = .ok (.aload_n 0, 1) := by decide +kernel
theorem dX6_readNumber_39 : decode cX6_readNumber 39 = .ok (.getfield 35, 3) := by decide +kernel
theorem dX6_readNumber_42 : decode cX6_readNumber 42 = .ok (.if_icmp .ge 64, 3) := by decide +kernel
theorem dX6_readNumber_45 : decode cX6_readNumber 45 = .ok (.aload_n 0, 1) := by decide +kernel
theorem dX6_readNumber_46 : decode cX6_readNumber 46 = .ok (.getfield 27, 3) := by decide +kernel
theorem dX6_readNumber_49 : decode cX6_readNumber 49 = .ok (.aload_n 0, 1) := by decide +kernel
theorem dX6_readNumber_50 : decode cX6_readNumber 50 = .ok (.getfield 45, 3) := by decide +kernel
theorem dX6_readNumber_53 : decode cX6_readNumber 53 = .ok (.iaload, 1) := by decide +kernel
theorem dX6_readNumber_54 : decode cX6_readNumber 54 = .ok (.invokestatic 118, 3) := by decide +kernel
theorem dX6_readNumber_57 : decode cX6_readNumber 57 = .ok (.ifCond .eq 49, 3) := by decide +kernel
theorem dX6_readNumber_60 : decode cX6_readNumber 60 = .ok (.aload_n 0, 1) := by decide +kernel
theorem dX6_readNumber_61 : decode cX6_readNumber 61 = .ok (.getfield 45, 3) := by decide +kernel
theorem dX6_readNumber_64 : decode cX6_readNumber 64 = .ok (.aload_n 0, 1) := by decide +kernel
theorem dX6_readNumber_65 : decode cX6_readNumber 65 = .ok (.getfield 105, 3) := by decide +kernel
theorem dX6_readNumber_68 : decode cX6_readNumber 68 = .ok (.isub, 1) := by decide +kernel
theorem dX6_readNumber_69 : decode cX6_readNumber 69 = .ok (.iconst 3, 1) := by decide +kernel
theorem dX6_readNumber_70 : decode cX6_readNumber 70 = .ok (.if_icmp .ge 23, 3) := by decide +kernel
theorem dX6_readNumber_73 : decode cX6_readNumber 73 = .ok (.iload 4, 2) := by decide +kernel
theorem dX6_readNumber_75 : decode cX6_readNumber 75 = .ok (.bipush 10, 2) := by decide +kernel
theorem dX6_readNumber_77 : decode cX6_readNumber 77 = .ok (.imul, 1) := by decide +kernel
theorem dX6_readNumber_78 : decode cX6_readNumber 78 = .ok (.aload_n 0, 1) := by decide +kernel
theorem dX6_readNumber_79 : decode cX6_readNumber 79 = .ok (.getfield 27, 3) := by decide +kernel
theorem dX6_readNumber_82 : decode cX6_readNumber 82 = .ok (.aload_n 0, 1) := by decide +kernel
theorem dX6_readNumber_83 : decode cX6_readNumber 83 = .ok (.getfield 45, 3) := by decide +kernel
theorem dX6_readNumber_86 : decode cX6_readNumber 86 = .ok (.iaload, 1) := by decide +kernel
theorem dX6_readNumber_87 : decode cX6_readNumber 87 = .ok (.iadd, 1) := by decide +kernel
theorem dX6_readNumber_88 : decode cX6_readNumber 88 = .ok (.bipush 48, 2) := by decide +kernel
theorem dX6_readNumber_90 : decode cX6_readNumber 90 = .ok (.isub, 1) := by decide +kernel
theorem dX6_readNumber_91 : decode cX6_readNumber 91 = .ok (.istore 4, 2) := by decide +kernel
theorem dX6_readNumber_93 : decode cX6_readNumber 93 = .ok (.aload_n 0, 1) := by decide +kernel
theorem dX6_readNumber_94 : decode cX6_readNumber 94 = .ok (.dup, 1) := by decide +kernel
theorem dX6_readNumber_95 : decode cX6_readNumber 95 = .ok (.getfield 45, 3) := by decide +kernel
theorem dX6_readNumber_98 : decode cX6_readNumber 98 = .ok (.iconst 1, 1) := by decide +kernel
theorem dX6_readNumber_99 : decode cX6_readNumber 99 = .ok (.iadd, 1) := by decide +kernel
theorem dX6_readNumber_100 : decode cX6_readNumber 100 = .ok (.putfield 45, 3) := by decide +kernel
theorem dX6_readNumber_103 : decode cX6_readNumber 103 = .ok (.goto (-69), 3) := by decide +kernel
theorem dX6_readNumber_106 : decode cX6_readNumber 106 = .ok (.aload_n 0, 1) := by decide +kernel
theorem dX6_readNumber_107 : decode cX6_readNumber 107 = .ok (.getfield 45, 3) := by decide +kernel
theorem dX6_readNumber_110 : decode cX6_readNumber 110 = .ok (.aload_n 0, 1) := by decide +kernel
theorem dX6_readNumber_111 : decode cX6_readNumber 111 = .ok (.getfield 105, 3) := by decide +kernel
theorem dX6_readNumber_114 : decode cX6_readNumber 114 = .ok (.isub, 1) := by decide +kernel
theorem dX6_readNumber_115 : decode cX6_readNumber 115 = .ok (.iconst 3, 1) := by decide +kernel
theorem dX6_readNumber_116 : decode cX6_readNumber 116 = .ok (.if_icmp .gt 15, 3) := by decide +kernel
theorem dX6_readNumber_119 : decode cX6_readNumber 119 = .ok (.iload 4, 2) := by decide +kernel
theorem dX6_readNumber_121 : decode cX6_readNumber 121 = .ok (.iload_n 1, 1) := by decide +kernel
theorem dX6_readNumber_122 : decode cX6_readNumber 122 = .ok (.if_icmp .lt 9, 3) := by decide +kernel
theorem dX6_readNumber_125 : decode cX6_readNumber 125 = .ok (.iload 4, 2) := by decide +kernel
theorem dX6_readNumber_127 : decode cX6_readNumber 127 = .ok (.iload_n 2, 1) := by decide +kernel
theorem dX6_readNumber_128 : decode cX6_readNumber 128 = .ok (.if_icmp .le 12, 3) := by decide +kernel
theorem dX6_readNumber_131 : decode cX6_readNumber 131 = .ok (.aload_n 0, 1) := by decide +kernel
theorem dX6_readNumber_132 : decode cX6_readNumber 132 = .ok (.iconst 2, 1) := by decide +kernel
theorem dX6_readNumber_133 : decode cX6_readNumber 133 = .ok (.aload_n 0, 1) := by decide +kernel
theorem dX6_readNumber_134 : decode cX6_readNumber 134 = .ok (.getfield 105, 3) := by decide +kernel
theorem dX6_readNumber_137 : decode cX6_readNumber 137 = .ok (.invokevirtual 62, 3) := by decide +kernel
theorem dX6_readNumber_140 : decode cX6_readNumber 140 = .ok (.iload 4, 2) := by decide +kernel
theorem dX6_readNumber_142 : decode cX6_readNumber 142 = .ok (.ireturn, 1) := by decide +kernel
theorem dX6_isFigure_0 : decode cX6_isFigure 0 = .ok (.iload_n 0, 1) := by decide +kernel
theorem dX6_isFigure_1 : decode cX6_isFigure 1 = .ok (.bipush 48, 2) := by decide +kernel
theorem dX6_isFigure_3 : decode cX6_isFigure 3 = .ok (.if_icmp .lt 13, 3) := by decide +kernel
theorem dX6_isFigure_6 : decode cX6_isFigure 6 = .ok (.iload_n 0, 1) := by decide +kernel
theorem dX6_isFigure_7 : decode cX6_isFigure 7 = .ok (.bipush 57, 2) := by decide +kernel
theorem dX6_isFigure_9 : decode cX6_isFigure 9 = .ok (.if_icmp .gt 7, 3) := by decide +kernel
theorem dX6_isFigure_12 : decode cX6_isFigure 12 = .ok (.iconst 1, 1) := by decide +kernel
theorem dX6_isFigure_13 : decode cX6_isFigure 13 = .ok (.goto 4, 3) := by decide +kernel
theorem dX6_isFigure_16 : decode cX6_isFigure 16 = .ok (.iconst 0, 1) := by decide +kernel
theorem dX6_isFigure_17 : decode cX6_isFigure 17 = .ok (.ireturn, 1) := by decide +kernel
theorem dX6_blame_0 : decode cX6_blame 0 = .ok (.aload_n 0, 1) := by decide +kernel
theorem dX6_blame_1 : decode cX6_blame 1 = .ok (.getfield 42, 3) := by decide +kernel
theorem dX6_blame_4 : decode cX6_blame 4 = .ok (.ifCond .ne 13, 3) := by decide +kernel
theorem dX6_blame_7 : decode cX6_blame 7 = .ok (.aload_n 0, 1) := by decide +kernel
theorem dX6_blame_8 : decode cX6_blame 8 = .ok (.iload_n 1, 1) := by decide +kernel
theorem dX6_blame_9 : decode cX6_blame 9 = .ok (.putfield 42, 3) := by decide +kernel
theorem dX6_blame_12 : decode cX6_blame 12 = .ok (.aload_n 0, 1) := by decide +kernel
theorem dX6_blame_13 : decode cX6_blame 13 = .ok (.iload_n 2, 1) := by decide +kernel
theorem dX6_blame_14 : decode cX6_blame 14 = .ok (.putfield 31, 3) := by decide +kernel
theorem dX6_blame_17 : decode cX6_blame 17 = .ok (.return_, 1) := by decide +kernel
theorem dX7_init_0 : decode cX7_init 0 = .ok (.aload_n 0, 1) := by decide +kernel
theorem dX7_init_1 : decode cX7_init 1 = .ok (.invokespecial 3, 3) := by decide +kernel
theorem dX7_init_4 : decode cX7_init 4 = .ok (.aload_n 0, 1) := by decide +kernel
theorem dX7_init_5 : decode cX7_init 5 = .ok (.bipush 32, 2) := by decide +kernel
theorem dX7_init_7 : decode cX7_init 7 = .ok (.newarray .int, 2) := by decide +kernel
theorem dX7_init_9 : decode cX7_init 9 = .ok (.putfield 9, 3) := by decide +kernel
theorem dX7_init_12 : decode cX7_init 12 = .ok (.aload_n 0, 1) := by decide +kernel
theorem dX7_init_13 : decode cX7_init 13 = .ok (.iconst 4, 1) := by decide +kernel
theorem dX7_init_14 : decode cX7_init 14 = .ok (.newarray .int, 2) := by decide +kernel
theorem dX7_init_16 : decode cX7_init 16 = .ok (.putfield 15, 3) := by decide +kernel
theorem dX7_init_19 : decode cX7_init 19 = .ok (.aload_n 0, 1) := by decide +kernel
theorem dX7_init_20 : decode cX7_init 20 = .ok (.bipush 8, 2) := by decide +kernel
theorem dX7_init_22 : decode cX7_init 22 = .ok (.newarray .int, 2) := by decide +kernel
theorem dX7_init_24 : decode cX7_init 24 = .ok (.putfield 18, 3) := by decide +kernel
theorem dX7_init_27 : decode cX7_init 27 = .ok (.aload_n 0, 1) := by decide +kernel
theorem dX7_init_28 : decode cX7_init 28 = .ok (.bipush 8, 2) := by decide +kernel
theorem dX7_init_30 : decode cX7_init 30 = .ok (.newarray .int, 2) := by decide +kernel
theorem dX7_init_32 : decode cX7_init 32 = .ok (.putfield 21, 3) := by decide +kernel
theorem dX7_init_35 : decode cX7_init 35 = .ok (.aload_n 0, 1) := by decide +kernel
theorem dX7_init_36 : decode cX7_init 36 = .ok (.aload_n 1, 1) := by decide +kernel
theorem dX7_init_37 : decode cX7_init 37 = .ok (.putfield 24, 3) := by decide +kernel
theorem dX7_init_40 : decode cX7_init 40 = .ok (.return_, 1) := by decide +kernel
theorem dX7_clear_0 : decode cX7_clear 0 = .ok (.iconst 0, 1) := by decide +kernel
theorem dX7_clear_1 : decode cX7_clear 1 = .ok (.istore_n 1, 1) := by decide +kernel
theorem dX7_clear_2 : decode cX7_clear 2 = .ok (.iload_n 1, 1) := by decide +kernel
theorem dX7_clear_3 : decode cX7_clear 3 = .ok (.bipush 32, 2) := by decide +kernel
theorem dX7_clear_5 : decode cX7_clear 5 = .ok (.if_icmp .ge 16, 3) := by decide +kernel
theorem dX7_clear_8 : decode cX7_clear 8 = .ok (.aload_n 0, 1) := by decide +kernel
theorem dX7_clear_9 : decode cX7_clear 9 = .ok (.getfield 9, 3) := by decide +kernel
theorem dX7_clear_12 : decode cX7_clear 12 = .ok (.iload_n 1, 1) := by decide +kernel
theorem dX7_clear_13 : decode cX7_clear 13 = .ok (.iconst 0, 1) := by decide +kernel
theorem dX7_clear_14 : decode cX7_clear 14 = .ok (.iastore, 1) := by decide +kernel
theorem dX7_clear_15 : decode cX7_clear 15 = .ok (.iinc 1 1, 3) := by decide +kernel
theorem dX7_clear_18 : decode cX7_clear 18 = .ok (.goto (-16), 3) := by decide +kernel
theorem dX7_clear_21 : decode cX7_clear 21 = .ok (.iconst 0, 1) := by decide +kernel
theorem dX7_clear_22 : decode cX7_clear 22 = .ok (.istore_n 1, 1) := by decide +kernel
theorem dX7_clear_23 : decode cX7_clear 23 = .ok (.iload_n 1, 1) := by decide +kernel
theorem dX7_clear_24 : decode cX7_clear 24 = .ok (.iconst 4, 1) := by decide +kernel
theorem dX7_clear_25 : decode cX7_clear 25 = .ok (.if_icmp .ge 16, 3) := by decide +kernel
theorem dX7_clear_28 : decode cX7_clear 28 = .ok (.aload_n 0, 1) := by decide +kernel
theorem dX7_clear_29 : decode cX7_clear 29 = .ok (.getfield 15, 3) := by decide +kernel
theorem dX7_clear_32 : decode cX7_clear 32 = .ok (.iload_n 1, 1) := by decide +kernel
theorem dX7_clear_33 : decode cX7_clear 33 = .ok (.iconst 0, 1) := by decide +kernel
theorem dX7_clear_34 : decode cX7_clear 34 = .ok (.iastore, 1) := by decide +kernel
theorem dX7_clear_35 : decode cX7_clear 35 = .ok (.iinc 1 1, 3) := by decide +kernel
theorem dX7_clear_38 : decode cX7_clear 38 = .ok (.goto (-15), 3) := by decide +kernel
theorem dX7_clear_41 : decode cX7_clear 41 = .ok (.iconst 0, 1) := by decide +kernel
theorem dX7_clear_42 : decode cX7_clear 42 = .ok (.istore_n 1, 1) := by decide +kernel
theorem dX7_clear_43 : decode cX7_clear 43 = .ok (.iload_n 1, 1) := by decide +kernel
theorem dX7_clear_44 : decode cX7_clear 44 = .ok (.bipush 8, 2) := by decide +kernel
theorem dX7_clear_46 : decode cX7_clear 46 = .ok (.if_icmp .ge 23, 3) := by decide +kernel
theorem dX7_clear_49 : decode cX7_clear 49 = .ok (.aload_n 0, 1) := by decide +kernel
theorem dX7_clear_50 : decode cX7_clear 50 = .ok (.getfield 18, 3) := by decide +kernel
theorem dX7_clear_53 : decode cX7_clear 53 = .ok (.iload_n 1, 1) := by decide +kernel
theorem dX7_clear_54 : decode cX7_clear 54 = .ok (.iconst 0, 1) := by decide +kernel
theorem dX7_clear_55 : decode cX7_clear 55 = .ok (.iastore, 1) := by decide +kernel
theorem dX7_clear_56 : decode cX7_clear 56 = .ok (.aload_n 0, 1) := by decide +kernel
theorem dX7_clear_57 : decode cX7_clear 57 = .ok (.getfield 21, 3) := by decide +kernel
theorem dX7_clear_60 : decode cX7_clear 60 = .ok (.iload_n 1, 1) := by decide +kernel
theorem dX7_clear_61 : decode cX7_clear 61 = .ok (.iconst (-1), 1) := by decide +kernel
theorem dX7_clear_62 : decode cX7_clear 62 = .ok (.iastore, 1) := by decide +kernel
theorem dX7_clear_63 : decode cX7_clear 63 = .ok (.iinc 1 1, 3) := by decide +kernel
theorem dX7_clear_66 : decode cX7_clear 66 = .ok (.goto (-23), 3) := by decide +kernel
theorem dX7_clear_69 : decode cX7_clear 69 = .ok (.aload_n 0, 1) := by decide +kernel
theorem dX7_clear_70 : decode cX7_clear 70 = .ok (.iconst 0, 1) := by decide +kernel
theorem dX7_clear_71 : decode cX7_clear 71 = .ok (.putfield 28, 3) := by decide +kernel
theorem dX7_clear_74 : decode cX7_clear 74 = .ok (.aload_n 0, 1) := by decide +kernel
theorem dX7_clear_75 : decode cX7_clear 75 = .ok (.iconst 0, 1) := by decide +kernel
theorem dX7_clear_76 : decode cX7_clear 76 = .ok (.putfield 32, 3) := by decide +kernel
theorem dX7_clear_79 : decode cX7_clear 79 = .ok (.return_, 1) := by decide +kernel
theorem dX7_take_0 : decode cX7_take 0 = .ok (.aload_n 1, 1) := by decide +kernel
theorem dX7_take_1 : decode cX7_take 1 = .ok (.getfield 9, 3) := by decide +kernel
theorem dX7_take_4 : decode cX7_take 4 = .ok (.iconst 0, 1) := by decide +kernel
theorem dX7_take_5 : decode cX7_take 5 = .ok (.aload_n 0, 1) := by decide +kernel
theorem dX7_take_6 : decode cX7_take 6 = .ok (.getfield 9, 3) := by decide +kernel
theorem dX7_take_9 : decode cX7_take 9 = .ok (.iconst 0, 1) := by decide +kernel
theorem dX7_take_10 : decode cX7_take 10 = .ok (.bipush 32, 2) := by decide +kernel
theorem dX7_take_12 : decode cX7_take 12 = .ok (.invokestatic 35, 3) := by decide +kernel
theorem dX7_take_15 : decode cX7_take 15 = .ok (.aload_n 1, 1) := by decide +kernel
theorem dX7_take_16 : decode cX7_take 16 = .ok (.getfield 15, 3) := by decide +kernel
theorem dX7_take_19 : decode cX7_take 19 = .ok (.iconst 0, 1) := by decide +kernel
theorem dX7_take_20 : decode cX7_take 20 = .ok (.aload_n 0, 1) := by decide +kernel
theorem dX7_take_21 : decode cX7_take 21 = .ok (.getfield 15, 3) := by decide +kernel
theorem dX7_take_24 : decode cX7_take 24 = .ok (.iconst 0, 1) := by decide +kernel
theorem dX7_take_25 : decode cX7_take 25 = .ok (.iconst 4, 1) := by decide +kernel
theorem dX7_take_26 : decode cX7_take 26 = .ok (.invokestatic 35, 3) := by decide +kernel
theorem dX7_take_29 : decode cX7_take 29 = .ok (.aload_n 1, 1) := by decide +kernel
theorem dX7_take_30 : decode cX7_take 30 = .ok (.getfield 18, 3) := by decide +kernel
theorem dX7_take_33 : decode cX7_take 33 = .ok (.iconst 0, 1) := by decide +kernel
theorem dX7_take_34 : decode cX7_take 34 = .ok (.aload_n 0, 1) := by decide +kernel
theorem dX7_take_35 : decode cX7_take 35 = .ok (.getfield 18, 3) := by decide +kernel
theorem dX7_take_38 : decode cX7_take 38 = .ok (.iconst 0, 1) := by decide +kernel
theorem dX7_take_39 : decode cX7_take 39 = .ok (.bipush 8, 2) := by decide +kernel
theorem dX7_take_41 : decode cX7_take 41 = .ok (.invokestatic 35, 3) := by decide +kernel
theorem dX7_take_44 : decode cX7_take 44 = .ok (.aload_n 1, 1) := by decide +kernel
theorem dX7_take_45 : decode cX7_take 45 = .ok (.getfield 21, 3) := by decide +kernel
theorem dX7_take_48 : decode cX7_take 48 = .ok (.iconst 0, 1) := by decide +kernel
theorem dX7_take_49 : decode cX7_take 49 = .ok (.aload_n 0, 1) := by decide +kernel
theorem dX7_take_50 : decode cX7_take 50 = .ok (.getfield 21, 3) := by decide +kernel
theorem dX7_take_53 : decode cX7_take 53 = .ok (.iconst 0, 1) := by decide +kernel
theorem dX7_take_54 : decode cX7_take 54 = .ok (.bipush 8, 2) := by decide +kernel
theorem dX7_take_56 : decode cX7_take 56 = .ok (.invokestatic 35, 3) := by decide +kernel
theorem dX7_take_59 : decode cX7_take 59 = .ok (.aload_n 0, 1) := by decide +kernel
theorem dX7_take_60 : decode cX7_take 60 = .ok (.aload_n 1, 1) := by decide +kernel
theorem dX7_take_61 : decode cX7_take 61 = .ok (.getfield 28, 3) := by decide +kernel
theorem dX7_take_64 : decode cX7_take 64 = .ok (.putfield 28, 3) := by decide +kernel
theorem dX7_take_67 : decode cX7_take 67 = .ok (.aload_n 0, 1) := by decide +kernel
theorem dX7_take_68 : decode cX7_take 68 = .ok (.aload_n 1, 1) := by decide +kernel
theorem dX7_take_69 : decode cX7_take 69 = .ok (.getfield 32, 3) := by decide +kernel
theorem dX7_take_72 : decode cX7_take 72 = .ok (.putfield 32, 3) := by decide +kernel
theorem dX7_take_75 : decode cX7_take 75 = .ok (.return_, 1) := by decide +kernel
theorem dX7_owedTo_0 : decode cX7_owedTo 0 = .ok (.aload_n 0, 1) := by decide +kernel
theorem dX7_owedTo_1 : decode cX7_owedTo 1 = .ok (.getfield 9, 3) := by decide +kernel
theorem dX7_owedTo_4 : decode cX7_owedTo 4 = .ok (.iload_n 1, 1) := by decide +kernel
theorem dX7_owedTo_5 : decode cX7_owedTo 5 = .ok (.iconst 4, 1) := by decide +kernel
theorem dX7_owedTo_6 : decode cX7_owedTo 6 = .ok (.imul, 1) := by decide +kernel
theorem dX7_owedTo_7 : decode cX7_owedTo 7 = .ok (.iload_n 2, 1) := by decide +kernel
theorem dX7_owedTo_8 : decode cX7_owedTo 8 = .ok (.iadd, 1) := by decide +kernel
theorem dX7_owedTo_9 : decode cX7_owedTo 9 = .ok (.iaload, 1) := by decide +kernel
theorem dX7_owedTo_10 : decode cX7_owedTo 10 = .ok (.ireturn, 1) := by decide +kernel
theorem dX7_setOwed_0 : decode cX7_setOwed 0 = .ok (.aload_n 0, 1) := by decide +kernel
theorem dX7_setOwed_1 : decode cX7_setOwed 1 = .ok (.getfield 9, 3) := by decide +kernel
theorem dX7_setOwed_4 : decode cX7_setOwed 4 = .ok (.iload_n 1, 1) := by decide +kernel
theorem dX7_setOwed_5 : decode cX7_setOwed 5 = .ok (.iconst 4, 1) := by decide +kernel
theorem dX7_setOwed_6 : decode cX7_setOwed 6 = .ok (.imul, 1) := by decide +kernel
theorem dX7_setOwed_7 : decode cX7_setOwed 7 = .ok (.iload_n 2, 1) := by decide +kernel
theorem dX7_setOwed_8 : decode cX7_setOwed 8 = .ok (.iadd, 1) := by decide +kernel
theorem dX7_setOwed_9 : decode cX7_setOwed 9 = .ok (.sipush 9999, 3) := by decide +kernel
theorem dX7_setOwed_12 : decode cX7_setOwed 12 = .ok (.iload_n 3, 1) := by decide +kernel
theorem dX7_setOwed_13 : decode cX7_setOwed 13 = .ok (.invokestatic 41, 3) := by decide +kernel
theorem dX7_setOwed_16 : decode cX7_setOwed 16 = .ok (.iastore, 1) := by decide +kernel
theorem dX7_setOwed_17 : decode cX7_setOwed 17 = .ok (.return_, 1) := by decide +kernel
theorem dX7_owedTogether_0 : decode cX7_owedTogether 0 = .ok (.iconst 0, 1) := by decide +kernel
theorem dX7_owedTogether_1 : decode cX7_owedTogether 1 = .ok (.istore_n 2, 1) := by decide +kernel
theorem dX7_owedTogether_2 : decode cX7_owedTogether 2 = .ok (.iconst 0, 1) := by decide +kernel
theorem dX7_owedTogether_3 : decode cX7_owedTogether 3 = .ok (.istore_n 3, 1) := by decide +kernel
theorem dX7_owedTogether_4 : decode cX7_owedTogether 4 = .ok (.iload_n 3, 1) := by decide +kernel
theorem dX7_owedTogether_5 : decode cX7_owedTogether 5 = .ok (.aload_n 0, 1) := by decide +kernel
theorem dX7_owedTogether_6 : decode cX7_owedTogether 6 = .ok (.getfield 24, 3) := by decide +kernel
theorem dX7_owedTogether_9 : decode cX7_owedTogether 9 = .ok (.getfield 47, 3) := by decide +kernel
theorem dX7_owedTogether_12 : decode cX7_owedTogether 12 = .ok (.if_icmp .ge 18, 3) := by decide +kernel
theorem dX7_owedTogether_15 : decode cX7_owedTogether 15 = .ok (.iload_n 2, 1) := by decide +kernel
theorem dX7_owedTogether_16 : decode cX7_owedTogether 16 = .ok (.aload_n 0, 1) := by decide +kernel
theorem dX7_owedTogether_17 : decode cX7_owedTogether 17 = .ok (.iload_n 1, 1) := by decide +kernel
theorem dX7_owedTogether_18 : decode cX7_owedTogether 18 = .ok (.iload_n 3, 1) := by decide +kernel
theorem dX7_owedTogether_19 : decode cX7_owedTogether 19 = .ok (.invokevirtual 52, 3) := by decide +kernel
theorem dX7_owedTogether_22 : decode cX7_owedTogether 22 = .ok (.iadd, 1) := by decide +kernel
theorem dX7_owedTogether_23 : decode cX7_owedTogether 23 = .ok (.istore_n 2, 1) := by decide +kernel
theorem dX7_owedTogether_24 : decode cX7_owedTogether 24 = .ok (.iinc 3 1, 3) := by decide +kernel
theorem dX7_owedTogether_27 : decode cX7_owedTogether 27 = .ok (.goto (-23), 3) := by decide +kernel
theorem dX7_owedTogether_30 : decode cX7_owedTogether 30 = .ok (.iload_n 2, 1) := by decide +kernel
theorem dX7_owedTogether_31 : decode cX7_owedTogether 31 = .ok (.ireturn, 1) := by decide +kernel
theorem dX7_owedInAll_0 : decode cX7_owedInAll 0 = .ok (.iconst 0, 1) := by decide +kernel
theorem dX7_owedInAll_1 : decode cX7_owedInAll 1 = .ok (.istore_n 1, 1) := by decide +kernel
theorem dX7_owedInAll_2 : decode cX7_owedInAll 2 = .ok (.iconst 0, 1) := by decide +kernel
theorem dX7_owedInAll_3 : decode cX7_owedInAll 3 = .ok (.istore_n 2, 1) := by decide +kernel
theorem dX7_owedInAll_4 : decode cX7_owedInAll 4 = .ok (.iload_n 2, 1) := by decide +kernel
theorem dX7_owedInAll_5 : decode cX7_owedInAll 5 = .ok (.aload_n 0, 1) := by decide +kernel
theorem dX7_owedInAll_6 : decode cX7_owedInAll 6 = .ok (.getfield 24, 3) := by decide +kernel
theorem dX7_owedInAll_9 : decode cX7_owedInAll 9 = .ok (.getfield 55, 3) := by decide +kernel
theorem dX7_owedInAll_12 : decode cX7_owedInAll 12 = .ok (.if_icmp .ge 17, 3) := by decide +kernel
theorem dX7_owedInAll_15 : decode cX7_owedInAll 15 = .ok (.iload_n 1, 1) := by decide +kernel
theorem dX7_owedInAll_16 : decode cX7_owedInAll 16 = .ok (.aload_n 0, 1) := by decide +kernel
theorem dX7_owedInAll_17 : decode cX7_owedInAll 17 = .ok (.iload_n 2, 1) := by decide +kernel
theorem dX7_owedInAll_18 : decode cX7_owedInAll 18 = .ok (.invokevirtual 58, 3) := by decide +kernel
theorem dX7_owedInAll_21 : decode cX7_owedInAll 21 = .ok (.iadd, 1) := by decide +kernel
theorem dX7_owedInAll_22 : decode cX7_owedInAll 22 = .ok (.istore_n 1, 1) := by decide +kernel
theorem dX7_owedInAll_23 : decode cX7_owedInAll 23 = .ok (.iinc 2 1, 3) := by decide +kernel
theorem dX7_owedInAll_26 : decode cX7_owedInAll 26 = .ok (.goto (-22), 3) := by decide +kernel
theorem dX7_owedInAll_29 : decode cX7_owedInAll 29 = .ok (.iload_n 1, 1) := by decide +kernel
theorem dX7_owedInAll_30 : decode cX7_owedInAll 30 = .ok (.ireturn, 1) := by decide +kernel
theorem dX7_wedSet_0 : decode cX7_wedSet 0 = .ok (.iconst 0, 1) := by decide +kernel
theorem dX7_wedSet_1 : decode cX7_wedSet 1 = .ok (.istore_n 1, 1) := by decide +kernel
theorem dX7_wedSet_2 : decode cX7_wedSet 2 = .ok (.iconst 0, 1) := by decide +kernel
theorem dX7_wedSet_3 : decode cX7_wedSet 3 = .ok (.istore_n 2, 1) := by decide +kernel
theorem dX7_wedSet_4 : decode cX7_wedSet 4 = .ok (.iload_n 2, 1) := by decide +kernel
theorem dX7_wedSet_5 : decode cX7_wedSet 5 = .ok (.aload_n 0, 1) := by decide +kernel
theorem dX7_wedSet_6 : decode cX7_wedSet 6 = .ok (.getfield 24, 3) := by decide +kernel
theorem dX7_wedSet_9 : decode cX7_wedSet 9 = .ok (.getfield 55, 3) := by decide +kernel
theorem dX7_wedSet_12 : decode cX7_wedSet 12 = .ok (.if_icmp .ge 25, 3) := by decide +kernel
theorem dX7_wedSet_15 : decode cX7_wedSet 15 = .ok (.aload_n 0, 1) := by decide +kernel
theorem dX7_wedSet_16 : decode cX7_wedSet 16 = .ok (.getfield 21, 3) := by decide +kernel
theorem dX7_wedSet_19 : decode cX7_wedSet 19 = .ok (.iload_n 2, 1) := by decide +kernel
theorem dX7_wedSet_20 : decode cX7_wedSet 20 = .ok (.iaload, 1) := by decide +kernel
theorem dX7_wedSet_21 : decode cX7_wedSet 21 = .ok (.iconst (-1), 1) := by decide +kernel
theorem dX7_wedSet_22 : decode cX7_wedSet 22 = .ok (.if_icmp .eq 9, 3) := by decide +kernel
theorem dX7_wedSet_25 : decode cX7_wedSet 25 = .ok (.iload_n 1, 1) := by decide +kernel
theorem dX7_wedSet_26 : decode cX7_wedSet 26 = .ok (.iconst 1, 1) := by decide +kernel
theorem dX7_wedSet_27 : decode cX7_wedSet 27 = .ok (.iload_n 2, 1) := by decide +kernel
theorem dX7_wedSet_28 : decode cX7_wedSet 28 = .ok (.ishl, 1) := by decide +kernel
theorem dX7_wedSet_29 : decode cX7_wedSet 29 = .ok (.ior, 1) := by decide +kernel
theorem dX7_wedSet_30 : decode cX7_wedSet 30 = .ok (.istore_n 1, 1) := by decide +kernel
theorem dX7_wedSet_31 : decode cX7_wedSet 31 = .ok (.iinc 2 1, 3) := by decide +kernel
theorem dX7_wedSet_34 : decode cX7_wedSet 34 = .ok (.goto (-30), 3) := by decide +kernel
theorem dX7_wedSet_37 : decode cX7_wedSet 37 = .ok (.iload_n 1, 1) := by decide +kernel
theorem dX7_wedSet_38 : decode cX7_wedSet 38 = .ok (.ireturn, 1) := by decide +kernel
theorem dX7_isWedMan_0 : decode cX7_isWedMan 0 = .ok (.aload_n 0, 1) := by decide +kernel
theorem dX7_isWedMan_1 : decode cX7_isWedMan 1 = .ok (.getfield 24, 3) := by decide +kernel
theorem dX7_isWedMan_4 : decode cX7_isWedMan 4 = .ok (.iload_n 1, 1) := by decide +kernel
theorem dX7_isWedMan_5 : decode cX7_isWedMan 5 = .ok (.invokevirtual 62, 3) := by decide +kernel
theorem dX7_isWedMan_8 : decode cX7_isWedMan 8 = .ok (.ifCond .eq 17, 3) := by decide +kernel
theorem dX7_isWedMan_11 : decode cX7_isWedMan 11 = .ok (.aload_n 0, 1) := by decide +kernel
theorem dX7_isWedMan_12 : decode cX7_isWedMan 12 = .ok (.getfield 21, 3) := by decide +kernel
theorem dX7_isWedMan_15 : decode cX7_isWedMan 15 = .ok (.iload_n 1, 1) := by decide +kernel
theorem dX7_isWedMan_16 : decode cX7_isWedMan 16 = .ok (.iaload, 1) := by decide +kernel
theorem dX7_isWedMan_17 : decode cX7_isWedMan 17 = .ok (.iconst (-1), 1) := by decide +kernel
theorem dX7_isWedMan_18 : decode cX7_isWedMan 18 = .ok (.if_icmp .eq 7, 3) := by decide +kernel
theorem dX7_isWedMan_21 : decode cX7_isWedMan 21 = .ok (.iconst 1, 1) := by decide +kernel
theorem dX7_isWedMan_22 : decode cX7_isWedMan 22 = .ok (.goto 4, 3) := by decide +kernel
theorem dX7_isWedMan_25 : decode cX7_isWedMan 25 = .ok (.iconst 0, 1) := by decide +kernel
theorem dX7_isWedMan_26 : decode cX7_isWedMan 26 = .ok (.ireturn, 1) := by decide +kernel
theorem dX7_hasFailed_0 : decode cX7_hasFailed 0 = .ok (.aload_n 0, 1) := by decide +kernel
theorem dX7_hasFailed_1 : decode cX7_hasFailed 1 = .ok (.getfield 28, 3) := by decide +kernel
theorem dX7_hasFailed_4 : decode cX7_hasFailed 4 = .ok (.iload_n 1, 1) := by decide +kernel
theorem dX7_hasFailed_5 : decode cX7_hasFailed 5 = .ok (.ishr, 1) := by decide +kernel
theorem dX7_hasFailed_6 : decode cX7_hasFailed 6 = .ok (.iconst 1, 1) := by decide +kernel
theorem dX7_hasFailed_7 : decode cX7_hasFailed 7 = .ok (.iand, 1) := by decide +kernel
theorem dX7_hasFailed_8 : decode cX7_hasFailed 8 = .ok (.iconst 1, 1) := by decide +kernel
theorem dX7_hasFailed_9 : decode cX7_hasFailed 9 = .ok (.if_icmp .ne 7, 3) := by decide +kernel
theorem dX7_hasFailed_12 : decode cX7_hasFailed 12 = .ok (.iconst 1, 1) := by decide +kernel
theorem dX7_hasFailed_13 : decode cX7_hasFailed 13 = .ok (.goto 4, 3) := by decide +kernel
theorem dX7_hasFailed_16 : decode cX7_hasFailed 16 = .ok (.iconst 0, 1) := by decide +kernel
theorem dX7_hasFailed_17 : decode cX7_hasFailed 17 = .ok (.ireturn, 1) := by decide +kernel
theorem dX7_hasInsulted_0 : decode cX7_hasInsulted 0 = .ok (.aload_n 0, 1) := by decide +kernel
theorem dX7_hasInsulted_1 : decode cX7_hasInsulted 1 = .ok (.getfield 18, 3) := by decide +kernel
theorem dX7_hasInsulted_4 : decode cX7_hasInsulted 4 = .ok (.iload_n 1, 1) := by decide +kernel
theorem dX7_hasInsulted_5 : decode cX7_hasInsulted 5 = .ok (.iaload, 1) := by decide +kernel
theorem dX7_hasInsulted_6 : decode cX7_hasInsulted 6 = .ok (.iload_n 2, 1) := by decide +kernel
theorem dX7_hasInsulted_7 : decode cX7_hasInsulted 7 = .ok (.ishr, 1) := by decide +kernel
theorem dX7_hasInsulted_8 : decode cX7_hasInsulted 8 = .ok (.iconst 1, 1) := by decide +kernel
theorem dX7_hasInsulted_9 : decode cX7_hasInsulted 9 = .ok (.iand, 1) := by decide +kernel
theorem dX7_hasInsulted_10 : decode cX7_hasInsulted 10 = .ok (.iconst 1, 1) := by decide +kernel
theorem dX7_hasInsulted_11 : decode cX7_hasInsulted 11 = .ok (.if_icmp .ne 7, 3) := by decide +kernel
theorem dX7_hasInsulted_14 : decode cX7_hasInsulted 14 = .ok (.iconst 1, 1) := by decide +kernel
theorem dX7_hasInsulted_15 : decode cX7_hasInsulted 15 = .ok (.goto 4, 3) := by decide +kernel
theorem dX7_hasInsulted_18 : decode cX7_hasInsulted 18 = .ok (.iconst 0, 1) := by decide +kernel
theorem dX7_hasInsulted_19 : decode cX7_hasInsulted 19 = .ok (.ireturn, 1) := by decide +kernel
theorem dX7_moodBy_0 : decode cX7_moodBy 0 = .ok (.aload_n 0, 1) := by decide +kernel
theorem dX7_moodBy_1 : decode cX7_moodBy 1 = .ok (.iload_n 1, 1) := by decide +kernel
theorem dX7_moodBy_2 : decode cX7_moodBy 2 = .ok (.invokevirtual 66, 3) := by decide +kernel
theorem dX7_moodBy_5 : decode cX7_moodBy 5 = .ok (.ifCond .eq 5, 3) := by decide +kernel
theorem dX7_moodBy_8 : decode cX7_moodBy 8 = .ok (.iconst 3, 1) := by decide +kernel
theorem dX7_moodBy_9 : decode cX7_moodBy 9 = .ok (.ireturn, 1) := by decide +kernel
theorem dX7_moodBy_10 : decode cX7_moodBy 10 = .ok (.iload_n 3, 1) := by decide +kernel
theorem dX7_moodBy_11 : decode cX7_moodBy 11 = .ok (.ifCond .ne 16, 3) := by decide +kernel
theorem dX7_moodBy_14 : decode cX7_moodBy 14 = .ok (.iload_n 2, 1) := by decide +kernel
theorem dX7_moodBy_15 : decode cX7_moodBy 15 = .ok (.aload_n 0, 1) := by decide +kernel
theorem dX7_moodBy_16 : decode cX7_moodBy 16 = .ok (.getfield 24, 3) := by decide +kernel
theorem dX7_moodBy_19 : decode cX7_moodBy 19 = .ok (.getfield 69, 3) := by decide +kernel
theorem dX7_moodBy_22 : decode cX7_moodBy 22 = .ok (.iload_n 1, 1) := by decide +kernel
theorem dX7_moodBy_23 : decode cX7_moodBy 23 = .ok (.iaload, 1) := by decide +kernel
theorem dX7_moodBy_24 : decode cX7_moodBy 24 = .ok (.if_icmp .ge 5, 3) := by decide +kernel
theorem dX7_moodBy_27 : decode cX7_moodBy 27 = .ok (.iconst 0, 1) := by decide +kernel
theorem dX7_moodBy_28 : decode cX7_moodBy 28 = .ok (.ireturn, 1) := by decide +kernel
theorem dX7_moodBy_29 : decode cX7_moodBy 29 = .ok (.iload_n 2, 1) := by decide +kernel
theorem dX7_moodBy_30 : decode cX7_moodBy 30 = .ok (.aload_n 0, 1) := by decide +kernel
theorem dX7_moodBy_31 : decode cX7_moodBy 31 = .ok (.getfield 24, 3) := by decide +kernel
theorem dX7_moodBy_34 : decode cX7_moodBy 34 = .ok (.getfield 72, 3) := by decide +kernel
theorem dX7_moodBy_37 : decode cX7_moodBy 37 = .ok (.iload_n 1, 1) := by decide +kernel
theorem dX7_moodBy_38 : decode cX7_moodBy 38 = .ok (.iaload, 1) := by decide +kernel
theorem dX7_moodBy_39 : decode cX7_moodBy 39 = .ok (.if_icmp .gt 7, 3) := by decide +kernel
theorem dX7_moodBy_42 : decode cX7_moodBy 42 = .ok (.iconst 1, 1) := by decide +kernel
theorem dX7_moodBy_43 : decode cX7_moodBy 43 = .ok (.goto 4, 3) := by decide +kernel
theorem dX7_moodBy_46 : decode cX7_moodBy 46 = .ok (.iconst 2, 1) := by decide +kernel
theorem dX7_moodBy_47 : decode cX7_moodBy 47 = .ok (.ireturn, 1) := by decide +kernel
theorem dX7_moodTo_0 : decode cX7_moodTo 0 = .ok (.aload_n 0, 1) := by decide +kernel
theorem dX7_moodTo_1 : decode cX7_moodTo 1 = .ok (.iload_n 2, 1) := by decide +kernel
theorem dX7_moodTo_2 : decode cX7_moodTo 2 = .ok (.aload_n 0, 1) := by decide +kernel
theorem dX7_moodTo_3 : decode cX7_moodTo 3 = .ok (.iload_n 1, 1) := by decide +kernel
theorem dX7_moodTo_4 : decode cX7_moodTo 4 = .ok (.iload_n 2, 1) := by decide +kernel
theorem dX7_moodTo_5 : decode cX7_moodTo 5 = .ok (.invokevirtual 52, 3) := by decide +kernel
theorem dX7_moodTo_8 : decode cX7_moodTo 8 = .ok (.aload_n 0, 1) := by decide +kernel
theorem dX7_moodTo_9 : decode cX7_moodTo 9 = .ok (.iload_n 1, 1) := by decide +kernel
theorem dX7_moodTo_10 : decode cX7_moodTo 10 = .ok (.iload_n 2, 1) := by decide +kernel
theorem dX7_moodTo_11 : decode cX7_moodTo 11 = .ok (.invokevirtual 75, 3) := by decide +kernel
theorem dX7_moodTo_14 : decode cX7_moodTo 14 = .ok (.invokevirtual 79, 3) := by decide +kernel
theorem dX7_moodTo_17 : decode cX7_moodTo 17 = .ok (.ireturn, 1) := by decide +kernel
theorem dX7_personsByMood_0 : decode cX7_personsByMood 0 = .ok (.iconst 0, 1) := by decide +kernel
theorem dX7_personsByMood_1 : decode cX7_personsByMood 1 = .ok (.istore_n 3, 1) := by decide +kernel
theorem dX7_personsByMood_2 : decode cX7_personsByMood 2 = .ok (.iconst 0, 1) := by decide +kernel
theorem dX7_personsByMood_3 : decode cX7_personsByMood 3 = .ok (.istore 4, 2) := by decide +kernel
theorem dX7_personsByMood_5 : decode cX7_personsByMood 5 = .ok (.iload 4, 2) := by decide +kernel
theorem dX7_personsByMood_7 : decode cX7_personsByMood 7 = .ok (.aload_n 0, 1) := by decide +kernel
theorem dX7_personsByMood_8 : decode cX7_personsByMood 8 = .ok (.getfield 24, 3) := by decide +kernel
theorem dX7_personsByMood_11 : decode cX7_personsByMood 11 = .ok (.getfield 55, 3) := by decide +kernel
theorem dX7_personsByMood_14 : decode cX7_personsByMood 14 = .ok (.if_icmp .ge 27, 3) := by decide +kernel
theorem dX7_personsByMood_17 : decode cX7_personsByMood 17 = .ok (.aload_n 0, 1) := by decide +kernel
theorem dX7_personsByMood_18 : decode cX7_personsByMood 18 = .ok (.iload 4, 2) := by decide +kernel
theorem dX7_personsByMood_20 : decode cX7_personsByMood 20 = .ok (.iload_n 1, 1) := by decide +kernel
theorem dX7_personsByMood_21 : decode cX7_personsByMood 21 = .ok (.invokevirtual 83, 3) := by decide +kernel
theorem dX7_personsByMood_24 : decode cX7_personsByMood 24 = .ok (.iload_n 2, 1) := by decide +kernel
theorem dX7_personsByMood_25 : decode cX7_personsByMood 25 = .ok (.if_icmp .ne 10, 3) := by decide +kernel
theorem dX7_personsByMood_28 : decode cX7_personsByMood 28 = .ok (.iload_n 3, 1) := by decide +kernel
theorem dX7_personsByMood_29 : decode cX7_personsByMood 29 = .ok (.iconst 1, 1) := by decide +kernel
theorem dX7_personsByMood_30 : decode cX7_personsByMood 30 = .ok (.iload 4, 2) := by decide +kernel
theorem dX7_personsByMood_32 : decode cX7_personsByMood 32 = .ok (.ishl, 1) := by decide +kernel
theorem dX7_personsByMood_33 : decode cX7_personsByMood 33 = .ok (.ior, 1) := by decide +kernel
theorem dX7_personsByMood_34 : decode cX7_personsByMood 34 = .ok (.istore_n 3, 1) := by decide +kernel
theorem dX7_personsByMood_35 : decode cX7_personsByMood 35 = .ok (.iinc 4 1, 3) := by decide +kernel
theorem dX7_personsByMood_38 : decode cX7_personsByMood 38 = .ok (.goto (-33), 3) := by decide +kernel
theorem dX7_personsByMood_41 : decode cX7_personsByMood 41 = .ok (.iload_n 3, 1) := by decide +kernel
theorem dX7_personsByMood_42 : decode cX7_personsByMood 42 = .ok (.ireturn, 1) := by decide +kernel
theorem dX7_worthOf_0 : decode cX7_worthOf 0 = .ok (.iload_n 2, 1) := by decide +kernel
theorem dX7_worthOf_1 : decode cX7_worthOf 1 = .ok (.iconst 1, 1) := by decide +kernel
theorem dX7_worthOf_2 : decode cX7_worthOf 2 = .ok (.if_icmp .ne 15, 3) := by decide +kernel
theorem dX7_worthOf_5 : decode cX7_worthOf 5 = .ok (.aload_n 0, 1) := by decide +kernel
theorem dX7_worthOf_6 : decode cX7_worthOf 6 = .ok (.getfield 24, 3) := by decide +kernel
theorem dX7_worthOf_9 : decode cX7_worthOf 9 = .ok (.getfield 86, 3) := by decide +kernel
theorem dX7_worthOf_12 : decode cX7_worthOf 12 = .ok (.iload_n 1, 1) := by decide +kernel
theorem dX7_worthOf_13 : decode cX7_worthOf 13 = .ok (.iaload, 1) := by decide +kernel
theorem dX7_worthOf_14 : decode cX7_worthOf 14 = .ok (.goto 13, 3) := by decide +kernel
theorem dX7_worthOf_17 : decode cX7_worthOf 17 = .ok (.iload_n 2, 1) := by decide +kernel
theorem dX7_worthOf_18 : decode cX7_worthOf 18 = .ok (.iconst 2, 1) := by decide +kernel
theorem dX7_worthOf_19 : decode cX7_worthOf 19 = .ok (.if_icmp .ne 7, 3) := by decide +kernel
theorem dX7_worthOf_22 : decode cX7_worthOf 22 = .ok (.iconst (-1), 1) := by decide +kernel
theorem dX7_worthOf_23 : decode cX7_worthOf 23 = .ok (.goto 4, 3) := by decide +kernel
theorem dX7_worthOf_26 : decode cX7_worthOf 26 = .ok (.iconst 0, 1) := by decide +kernel
theorem dX7_worthOf_27 : decode cX7_worthOf 27 = .ok (.ireturn, 1) := by decide +kernel
theorem dX7_standingOf_0 : decode cX7_standingOf 0 = .ok (.iconst 0, 1) := by decide +kernel
theorem dX7_standingOf_1 : decode cX7_standingOf 1 = .ok (.istore_n 2, 1) := by decide +kernel
theorem dX7_standingOf_2 : decode cX7_standingOf 2 = .ok (.iconst 0, 1) := by decide +kernel
theorem dX7_standingOf_3 : decode cX7_standingOf 3 = .ok (.istore_n 3, 1) := by decide +kernel
theorem dX7_standingOf_4 : decode cX7_standingOf 4 = .ok (.iload_n 3, 1) := by decide +kernel
theorem dX7_standingOf_5 : decode cX7_standingOf 5 = .ok (.aload_n 0, 1) := by decide +kernel
theorem dX7_standingOf_6 : decode cX7_standingOf 6 = .ok (.getfield 24, 3) := by decide +kernel
theorem dX7_standingOf_9 : decode cX7_standingOf 9 = .ok (.getfield 47, 3) := by decide +kernel
theorem dX7_standingOf_12 : decode cX7_standingOf 12 = .ok (.if_icmp .ge 23, 3) := by decide +kernel
theorem dX7_standingOf_15 : decode cX7_standingOf 15 = .ok (.iload_n 2, 1) := by decide +kernel
theorem dX7_standingOf_16 : decode cX7_standingOf 16 = .ok (.aload_n 0, 1) := by decide +kernel
theorem dX7_standingOf_17 : decode cX7_standingOf 17 = .ok (.iload_n 3, 1) := by decide +kernel
theorem dX7_standingOf_18 : decode cX7_standingOf 18 = .ok (.aload_n 0, 1) := by decide +kernel
theorem dX7_standingOf_19 : decode cX7_standingOf 19 = .ok (.iload_n 1, 1) := by decide +kernel
theorem dX7_standingOf_20 : decode cX7_standingOf 20 = .ok (.iload_n 3, 1) := by decide +kernel
theorem dX7_standingOf_21 : decode cX7_standingOf 21 = .ok (.invokevirtual 83, 3) := by decide +kernel
theorem dX7_standingOf_24 : decode cX7_standingOf 24 = .ok (.invokevirtual 89, 3) := by decide +kernel
theorem dX7_standingOf_27 : decode cX7_standingOf 27 = .ok (.iadd, 1) := by decide +kernel
theorem dX7_standingOf_28 : decode cX7_standingOf 28 = .ok (.istore_n 2, 1) := by decide +kernel
theorem dX7_standingOf_29 : decode cX7_standingOf 29 = .ok (.iinc 3 1, 3) := by decide +kernel
theorem dX7_standingOf_32 : decode cX7_standingOf 32 = .ok (.goto (-28), 3) := by decide +kernel
theorem dX7_standingOf_35 : decode cX7_standingOf 35 = .ok (.iload_n 2, 1) := by decide +kernel
theorem dX7_standingOf_36 : decode cX7_standingOf 36 = .ok (.ireturn, 1) := by decide +kernel
theorem dX7_standingJoined_0 : decode cX7_standingJoined 0 = .ok (.iconst 0, 1) := by decide +kernel
theorem dX7_standingJoined_1 : decode cX7_standingJoined 1 = .ok (.istore_n 3, 1) := by decide +kernel
theorem dX7_standingJoined_2 : decode cX7_standingJoined 2 = .ok (.iconst 0, 1) := by decide +kernel
theorem dX7_standingJoined_3 : decode cX7_standingJoined 3 = .ok (.istore 4, 2) := by decide +kernel
theorem dX7_standingJoined_5 : decode cX7_standingJoined 5 = .ok (.iload 4, 2) := by decide +kernel
theorem dX7_standingJoined_7 : decode cX7_standingJoined 7 = .ok (.aload_n 0, 1) := by decide +kernel
theorem dX7_standingJoined_8 : decode cX7_standingJoined 8 = .ok (.getfield 24, 3) := by decide +kernel
theorem dX7_standingJoined_11 : decode cX7_standingJoined 11 = .ok (.getfield 47, 3) := by decide +kernel
theorem dX7_standingJoined_14 : decode cX7_standingJoined 14 = .ok (.if_icmp .ge 78, 3) := by decide +kernel
theorem dX7_standingJoined_17 : decode cX7_standingJoined 17 = .ok (.aload_n 0, 1) := by decide +kernel
theorem dX7_standingJoined_18 : decode cX7_standingJoined 18 = .ok (.iload_n 1, 1) := by decide +kernel
theorem dX7_standingJoined_19 : decode cX7_standingJoined 19 = .ok (.iload 4, 2) := by decide +kernel
theorem dX7_standingJoined_21 : decode cX7_standingJoined 21 = .ok (.invokevirtual 75, 3) := by decide +kernel
theorem dX7_standingJoined_24 : decode cX7_standingJoined 24 = .ok (.ifCond .ne 13, 3) := by decide +kernel
theorem dX7_standingJoined_27 : decode cX7_standingJoined 27 = .ok (.aload_n 0, 1) := by decide +kernel
theorem dX7_standingJoined_28 : decode cX7_standingJoined 28 = .ok (.iload_n 2, 1) := by decide +kernel
