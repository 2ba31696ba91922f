theorem dX1_init_0 : decode cX1_init 0 = .ok (.aload_n 0, 1) := by decide +kernel
theorem dX1_init_1 : decode cX1_init 1 = .ok (.invokespecial 3, 3) := by decide +kernel
theorem dX1_init_4 : decode cX1_init 4 = .ok (.aload_n 0, 1) := by decide +kernel
theorem dX1_init_5 : decode cX1_init 5 = .ok (.bipush 6, 2) := by decide +kernel
theorem dX1_init_7 : decode cX1_init 7 = .ok (.newarray .int, 2) := by decide +kernel
theorem dX1_init_9 : decode cX1_init 9 = .ok (.putfield 9, 3) := by decide +kernel
theorem dX1_init_12 : decode cX1_init 12 = .ok (.aload_n 0, 1) := by decide +kernel
theorem dX1_init_13 : decode cX1_init 13 = .ok (.bipush 6, 2) := by decide +kernel
theorem dX1_init_15 : decode cX1_init 15 = .ok (.newarray .int, 2) := by decide +kernel
theorem dX1_init_17 : decode cX1_init 17 = .ok (.putfield 15, 3) := by decide +kernel
theorem dX1_init_20 : decode cX1_init 20 = .ok (.aload_n 0, 1) := by decide +kernel
theorem dX1_init_21 : decode cX1_init 21 = .ok (.bipush 6, 2) := by decide +kernel
theorem dX1_init_23 : decode cX1_init 23 = .ok (.newarray .int, 2) := by decide +kernel
theorem dX1_init_25 : decode cX1_init 25 = .ok (.putfield 18, 3) := by decide +kernel
theorem dX1_init_28 : decode cX1_init 28 = .ok (.aload_n 0, 1) := by decide +kernel
theorem dX1_init_29 : decode cX1_init 29 = .ok (.bipush 6, 2) := by decide +kernel
theorem dX1_init_31 : decode cX1_init 31 = .ok (.newarray .boolean, 2) := by decide +kernel
theorem dX1_init_33 : decode cX1_init 33 = .ok (.putfield 21, 3) := by decide +kernel
theorem dX1_init_36 : decode cX1_init 36 = .ok (.aload_n 0, 1) := by decide +kernel
theorem dX1_init_37 : decode cX1_init 37 = .ok (.bipush 100, 2) := by decide +kernel
theorem dX1_init_39 : decode cX1_init 39 = .ok (.newarray .int, 2) := by decide +kernel
theorem dX1_init_41 : decode cX1_init 41 = .ok (.putfield 25, 3) := by decide +kernel
theorem dX1_init_44 : decode cX1_init 44 = .ok (.return_, 1) := by decide +kernel
theorem dX1_add_0 : decode cX1_add 0 = .ok (.aload_n 0, 1) := by decide +kernel
theorem dX1_add_1 : decode cX1_add 1 = .ok (.getfield 28, 3) := by decide +kernel
theorem dX1_add_4 : decode cX1_add 4 = .ok (.bipush 6, 2) := by decide +kernel
theorem dX1_add_6 : decode cX1_add 6 = .ok (.if_icmp .lt 5, 3) := by decide +kernel
theorem dX1_add_9 : decode cX1_add 9 = .ok (.iconst 0, 1) := by decide +kernel
theorem dX1_add_10 : decode cX1_add 10 = .ok (.ireturn, 1) := by decide +kernel
theorem dX1_add_11 : decode cX1_add 11 = .ok (.aload_n 0, 1) := by decide +kernel
theorem dX1_add_12 : decode cX1_add 12 = .ok (.getfield 9, 3) := by decide +kernel
theorem dX1_add_15 : decode cX1_add 15 = .ok (.aload_n 0, 1) := by decide +kernel
theorem dX1_add_16 : decode cX1_add 16 = .ok (.getfield 28, 3) := by decide +kernel
theorem dX1_add_19 : decode cX1_add 19 = .ok (.iload_n 1, 1) := by decide +kernel
theorem dX1_add_20 : decode cX1_add 20 = .ok (.iastore, 1) := by decide +kernel
theorem dX1_add_21 : decode cX1_add 21 = .ok (.aload_n 0, 1) := by decide +kernel
theorem dX1_add_22 : decode cX1_add 22 = .ok (.getfield 15, 3) := by decide +kernel
theorem dX1_add_25 : decode cX1_add 25 = .ok (.aload_n 0, 1) := by decide +kernel
theorem dX1_add_26 : decode cX1_add 26 = .ok (.getfield 28, 3) := by decide +kernel
theorem dX1_add_29 : decode cX1_add 29 = .ok (.iload_n 2, 1) := by decide +kernel
theorem dX1_add_30 : decode cX1_add 30 = .ok (.iastore, 1) := by decide +kernel
theorem dX1_add_31 : decode cX1_add 31 = .ok (.aload_n 0, 1) := by decide +kernel
theorem dX1_add_32 : decode cX1_add 32 = .ok (.getfield 18, 3) := by decide +kernel
theorem dX1_add_35 : decode cX1_add 35 = .ok (.aload_n 0, 1) := by decide +kernel
theorem dX1_add_36 : decode cX1_add 36 = .ok (.getfield 28, 3) := by decide +kernel
theorem dX1_add_39 : decode cX1_add 39 = .ok (.iload_n 3, 1) := by decide +kernel
theorem dX1_add_40 : decode cX1_add 40 = .ok (.iastore, 1) := by decide +kernel
theorem dX1_add_41 : decode cX1_add 41 = .ok (.aload_n 0, 1) := by decide +kernel
theorem dX1_add_42 : decode cX1_add 42 = .ok (.getfield 21, 3) := by decide +kernel
theorem dX1_add_45 : decode cX1_add 45 = .ok (.aload_n 0, 1) := by decide +kernel
theorem dX1_add_46 : decode cX1_add 46 = .ok (.getfield 28, 3) := by decide +kernel
theorem dX1_add_49 : decode cX1_add 49 = .ok (.iload 4, 2) := by decide +kernel
theorem dX1_add_51 : decode cX1_add 51 = .ok (.bastore, 1) := by decide +kernel
theorem dX1_add_52 : decode cX1_add 52 = .ok (.aload_n 0, 1) := by decide +kernel
theorem dX1_add_53 : decode cX1_add 53 = .ok (.dup, 1) := by decide +kernel
theorem dX1_add_54 : decode cX1_add 54 = .ok (.getfield 28, 3) := by decide +kernel
theorem dX1_add_57 : decode cX1_add 57 = .ok (.iconst 1, 1) := by decide +kernel
theorem dX1_add_58 : decode cX1_add 58 = .ok (.iadd, 1) := by decide +kernel
theorem dX1_add_59 : decode cX1_add 59 = .ok (.putfield 28, 3) := by decide +kernel
theorem dX1_add_62 : decode cX1_add 62 = .ok (.iconst 1, 1) := by decide +kernel
theorem dX1_add_63 : decode cX1_add 63 = .ok (.ireturn, 1) := by decide +kernel
theorem dX1_sift_0 : decode cX1_sift 0 = .ok (.aload_n 0, 1) := by decide +kernel
theorem dX1_sift_1 : decode cX1_sift 1 = .ok (.iconst 0, 1) := by decide +kernel
theorem dX1_sift_2 : decode cX1_sift 2 = .ok (.putfield 32, 3) := by decide +kernel
theorem dX1_sift_5 : decode cX1_sift 5 = .ok (.iconst 0, 1) := by decide +kernel
theorem dX1_sift_6 : decode cX1_sift 6 = .ok (.istore 4, 2) := by decide +kernel
theorem dX1_sift_8 : decode cX1_sift 8 = .ok (.iload 4, 2) := by decide +kernel
theorem dX1_sift_10 : decode cX1_sift 10 = .ok (.bipush 100, 2) := by decide +kernel
theorem dX1_sift_12 : decode cX1_sift 12 = .ok (.if_icmp .ge 42, 3) := by decide +kernel
theorem dX1_sift_15 : decode cX1_sift 15 = .ok (.aload_n 0, 1) := by decide +kernel
theorem dX1_sift_16 : decode cX1_sift 16 = .ok (.aload_n 1, 1) := by decide +kernel
theorem dX1_sift_17 : decode cX1_sift 17 = .ok (.iload_n 2, 1) := by decide +kernel
theorem dX1_sift_18 : decode cX1_sift 18 = .ok (.iload_n 3, 1) := by decide +kernel
theorem dX1_sift_19 : decode cX1_sift 19 = .ok (.iload 4, 2) := by decide +kernel
theorem dX1_sift_21 : decode cX1_sift 21 = .ok (.invokevirtual 35, 3) := by decide +kernel
theorem dX1_sift_24 : decode cX1_sift 24 = .ok (.ifCond .eq 24, 3) := by decide +kernel
theorem dX1_sift_27 : decode cX1_sift 27 = .ok (.aload_n 0, 1) := by decide +kernel
theorem dX1_sift_28 : decode cX1_sift 28 = .ok (.getfield 25, 3) := by decide +kernel
theorem dX1_sift_31 : decode cX1_sift 31 = .ok (.aload_n 0, 1) := by decide +kernel
theorem dX1_sift_32 : decode cX1_sift 32 = .ok (.getfield 32, 3) := by decide +kernel
theorem dX1_sift_35 : decode cX1_sift 35 = .ok (.iload 4, 2) := by decide +kernel
theorem dX1_sift_37 : decode cX1_sift 37 = .ok (.iastore, 1) := by decide +kernel
theorem dX1_sift_38 : decode cX1_sift 38 = .ok (.aload_n 0, 1) := by decide +kernel
theorem dX1_sift_39 : decode cX1_sift 39 = .ok (.dup, 1) := by decide +kernel
theorem dX1_sift_40 : decode cX1_sift 40 = .ok (.getfield 32, 3) := by decide +kernel
theorem dX1_sift_43 : decode cX1_sift 43 = .ok (.iconst 1, 1) := by decide +kernel
theorem dX1_sift_44 : decode cX1_sift 44 = .ok (.iadd, 1) := by decide +kernel
theorem dX1_sift_45 : decode cX1_sift 45 = .ok (.putfield 32, 3) := by decide +kernel
theorem dX1_sift_48 : decode cX1_sift 48 = .ok (.iinc 4 1, 3) := by decide +kernel
theorem dX1_sift_51 : decode cX1_sift 51 = .ok (.goto (-43), 3) := by decide +kernel
theorem dX1_sift_54 : decode cX1_sift 54 = .ok (.return_, 1) := by decide +kernel
theorem dX1_fits_0 : decode cX1_fits 0 = .ok (.iconst 0, 1) := by decide +kernel
theorem dX1_fits_1 : decode cX1_fits 1 = .ok (.istore 5, 2) := by decide +kernel
theorem dX1_fits_3 : decode cX1_fits 3 = .ok (.iload 5, 2) := by decide +kernel
theorem dX1_fits_5 : decode cX1_fits 5 = .ok (.aload_n 0, 1) := by decide +kernel
theorem dX1_fits_6 : decode cX1_fits 6 = .ok (.getfield 28, 3) := by decide +kernel
theorem dX1_fits_9 : decode cX1_fits 9 = .ok (.if_icmp .ge 73, 3) := by decide +kernel
theorem dX1_fits_12 : decode cX1_fits 12 = .ok (.aload_n 0, 1) := by decide +kernel
theorem dX1_fits_13 : decode cX1_fits 13 = .ok (.getfield 9, 3) := by decide +kernel
theorem dX1_fits_16 : decode cX1_fits 16 = .ok (.iload 5, 2) := by decide +kernel
theorem dX1_fits_18 : decode cX1_fits 18 = .ok (.iaload, 1) := by decide +kernel
theorem dX1_fits_19 : decode cX1_fits 19 = .ok (.iload_n 2, 1) := by decide +kernel
theorem dX1_fits_20 : decode cX1_fits 20 = .ok (.if_icmp .ne 18, 3) := by decide +kernel
theorem dX1_fits_23 : decode cX1_fits 23 = .ok (.aload_n 0, 1) := by decide +kernel
theorem dX1_fits_24 : decode cX1_fits 24 = .ok (.getfield 15, 3) := by decide +kernel
theorem dX1_fits_27 : decode cX1_fits 27 = .ok (.iload 5, 2) := by decide +kernel
theorem dX1_fits_29 : decode cX1_fits 29 = .ok (.iaload, 1) := by decide +kernel
theorem dX1_fits_30 : decode cX1_fits 30 = .ok (.iload_n 3, 1) := by decide +kernel
theorem dX1_fits_31 : decode cX1_fits 31 = .ok (.if_icmp .ne 7, 3) := by decide +kernel
theorem dX1_fits_34 : decode cX1_fits 34 = .ok (.iconst 1, 1) := by decide +kernel
theorem dX1_fits_35 : decode cX1_fits 35 = .ok (.goto 4, 3) := by decide +kernel
theorem dX1_fits_38 : decode cX1_fits 38 = .ok (.iconst 0, 1) := by decide +kernel
theorem dX1_fits_39 : decode cX1_fits 39 = .ok (.istore 6, 2) := by decide +kernel
theorem dX1_fits_41 : decode cX1_fits 41 = .ok (.iload 6, 2) := by decide +kernel
theorem dX1_fits_43 : decode cX1_fits 43 = .ok (.ifCond .eq 33, 3) := by decide +kernel
theorem dX1_fits_46 : decode cX1_fits 46 = .ok (.aload_n 1, 1) := by decide +kernel
theorem dX1_fits_47 : decode cX1_fits 47 = .ok (.iload_n 3, 1) := by decide +kernel
theorem dX1_fits_48 : decode cX1_fits 48 = .ok (.aload_n 1, 1) := by decide +kernel
theorem dX1_fits_49 : decode cX1_fits 49 = .ok (.iload 4, 2) := by decide +kernel
theorem dX1_fits_51 : decode cX1_fits 51 = .ok (.aload_n 0, 1) := by decide +kernel
theorem dX1_fits_52 : decode cX1_fits 52 = .ok (.getfield 18, 3) := by decide +kernel
theorem dX1_fits_55 : decode cX1_fits 55 = .ok (.iload 5, 2) := by decide +kernel
theorem dX1_fits_57 : decode cX1_fits 57 = .ok (.iaload, 1) := by decide +kernel
theorem dX1_fits_58 : decode cX1_fits 58 = .ok (.invokestatic 39, 3) := by decide +kernel
theorem dX1_fits_61 : decode cX1_fits 61 = .ok (.invokevirtual 43, 3) := by decide +kernel
theorem dX1_fits_64 : decode cX1_fits 64 = .ok (.aload_n 0, 1) := by decide +kernel
theorem dX1_fits_65 : decode cX1_fits 65 = .ok (.getfield 21, 3) := by decide +kernel
theorem dX1_fits_68 : decode cX1_fits 68 = .ok (.iload 5, 2) := by decide +kernel
theorem dX1_fits_70 : decode cX1_fits 70 = .ok (.baload, 1) := by decide +kernel
theorem dX1_fits_71 : decode cX1_fits 71 = .ok (.if_icmp .eq 5, 3) := by decide +kernel
theorem dX1_fits_74 : decode cX1_fits 74 = .ok (.iconst 0, 1) := by decide +kernel
theorem dX1_fits_75 : decode cX1_fits 75 = .ok (.ireturn, 1) := by decide +kernel
theorem dX1_fits_76 : decode cX1_fits 76 = .ok (.iinc 5 1, 3) := by decide +kernel
theorem dX1_fits_79 : decode cX1_fits 79 = .ok (.goto (-76), 3) := by decide +kernel
theorem dX1_fits_82 : decode cX1_fits 82 = .ok (.iconst 1, 1) := by decide +kernel
theorem dX1_fits_83 : decode cX1_fits 83 = .ok (.ireturn, 1) := by decide +kernel
theorem dX1_behind_0 : decode cX1_behind 0 = .ok (.iload_n 1, 1) := by decide +kernel
theorem dX1_behind_1 : decode cX1_behind 1 = .ok (.istore_n 3, 1) := by decide +kernel
theorem dX1_behind_2 : decode cX1_behind 2 = .ok (.iconst 0, 1) := by decide +kernel
theorem dX1_behind_3 : decode cX1_behind 3 = .ok (.istore 4, 2) := by decide +kernel
theorem dX1_behind_5 : decode cX1_behind 5 = .ok (.iload 4, 2) := by decide +kernel
theorem dX1_behind_7 : decode cX1_behind 7 = .ok (.iload_n 2, 1) := by decide +kernel
theorem dX1_behind_8 : decode cX1_behind 8 = .ok (.if_icmp .ge 15, 3) := by decide +kernel
theorem dX1_behind_11 : decode cX1_behind 11 = .ok (.aload_n 0, 1) := by decide +kernel
theorem dX1_behind_12 : decode cX1_behind 12 = .ok (.iload_n 3, 1) := by decide +kernel
theorem dX1_behind_13 : decode cX1_behind 13 = .ok (.invokevirtual 49, 3) := by decide +kernel
theorem dX1_behind_16 : decode cX1_behind 16 = .ok (.istore_n 3, 1) := by decide +kernel
theorem dX1_behind_17 : decode cX1_behind 17 = .ok (.iinc 4 1, 3) := by decide +kernel
theorem dX1_behind_20 : decode cX1_behind 20 = .ok (.goto (-15), 3) := by decide +kernel
theorem dX1_behind_23 : decode cX1_behind 23 = .ok (.iload_n 3, 1) := by decide +kernel
theorem dX1_behind_24 : decode cX1_behind 24 = .ok (.ireturn, 1) := by decide +kernel
theorem dX1_leastSum_0 : decode cX1_leastSum 0 = .ok (.aload_n 0, 1) := by decide +kernel
theorem dX1_leastSum_1 : decode cX1_leastSum 1 = .ok (.getfield 32, 3) := by decide +kernel
theorem dX1_leastSum_4 : decode cX1_leastSum 4 = .ok (.ifCond .le 12, 3) := by decide +kernel
theorem dX1_leastSum_7 : decode cX1_leastSum 7 = .ok (.aload_n 0, 1) := by decide +kernel
theorem dX1_leastSum_8 : decode cX1_leastSum 8 = .ok (.getfield 25, 3) := by decide +kernel
theorem dX1_leastSum_11 : decode cX1_leastSum 11 = .ok (.iconst 0, 1) := by decide +kernel
theorem dX1_leastSum_12 : decode cX1_leastSum 12 = .ok (.iaload, 1) := by decide +kernel
theorem dX1_leastSum_13 : decode cX1_leastSum 13 = .ok (.goto 4, 3) := by decide +kernel
theorem dX1_leastSum_16 : decode cX1_leastSum 16 = .ok (.iconst (-1), 1) := by decide +kernel
theorem dX1_leastSum_17 : decode cX1_leastSum 17 = .ok (.ireturn, 1) := by decide +kernel
theorem dX1_mostSum_0 : decode cX1_mostSum 0 = .ok (.aload_n 0, 1) := by decide +kernel
theorem dX1_mostSum_1 : decode cX1_mostSum 1 = .ok (.getfield 32, 3) := by decide +kernel
theorem dX1_mostSum_4 : decode cX1_mostSum 4 = .ok (.ifCond .le 17, 3) := by decide +kernel
theorem dX1_mostSum_7 : decode cX1_mostSum 7 = .ok (.aload_n 0, 1) := by decide +kernel
theorem dX1_mostSum_8 : decode cX1_mostSum 8 = .ok (.getfield 25, 3) := by decide +kernel
theorem dX1_mostSum_11 : decode cX1_mostSum 11 = .ok (.aload_n 0, 1) := by decide +kernel
theorem dX1_mostSum_12 : decode cX1_mostSum 12 = .ok (.getfield 32, 3) := by decide +kernel
theorem dX1_mostSum_15 : decode cX1_mostSum 15 = .ok (.iconst 1, 1) := by decide +kernel
theorem dX1_mostSum_16 : decode cX1_mostSum 16 = .ok (.isub, 1) := by decide +kernel
theorem dX1_mostSum_17 : decode cX1_mostSum 17 = .ok (.iaload, 1) := by decide +kernel
theorem dX1_mostSum_18 : decode cX1_mostSum 18 = .ok (.goto 4, 3) := by decide +kernel
theorem dX1_mostSum_21 : decode cX1_mostSum 21 = .ok (.iconst (-1), 1) := by decide +kernel
theorem dX1_mostSum_22 : decode cX1_mostSum 22 = .ok (.ireturn, 1) := by decide +kernel
theorem dX1_bestLook_0 : decode cX1_bestLook 0 = .ok (.iconst (-1), 1) := by decide +kernel
theorem dX1_bestLook_1 : decode cX1_bestLook 1 = .ok (.istore_n 3, 1) := by decide +kernel
theorem dX1_bestLook_2 : decode cX1_bestLook 2 = .ok (.aload_n 0, 1) := by decide +kernel
theorem dX1_bestLook_3 : decode cX1_bestLook 3 = .ok (.getfield 32, 3) := by decide +kernel
theorem dX1_bestLook_6 : decode cX1_bestLook 6 = .ok (.istore 4, 2) := by decide +kernel
theorem dX1_bestLook_8 : decode cX1_bestLook 8 = .ok (.iconst 0, 1) := by decide +kernel
theorem dX1_bestLook_9 : decode cX1_bestLook 9 = .ok (.istore 5, 2) := by decide +kernel
theorem dX1_bestLook_11 : decode cX1_bestLook 11 = .ok (.iload 5, 2) := by decide +kernel
theorem dX1_bestLook_13 : decode cX1_bestLook 13 = .ok (.bipush 12, 2) := by decide +kernel
theorem dX1_bestLook_15 : decode cX1_bestLook 15 = .ok (.if_icmp .gt 94, 3) := by decide +kernel
theorem dX1_bestLook_18 : decode cX1_bestLook 18 = .ok (.iconst 0, 1) := by decide +kernel
theorem dX1_bestLook_19 : decode cX1_bestLook 19 = .ok (.istore 6, 2) := by decide +kernel
theorem dX1_bestLook_21 : decode cX1_bestLook 21 = .ok (.iconst 0, 1) := by decide +kernel
theorem dX1_bestLook_22 : decode cX1_bestLook 22 = .ok (.istore 7, 2) := by decide +kernel
theorem dX1_bestLook_24 : decode cX1_bestLook 24 = .ok (.iload 7, 2) := by decide +kernel
theorem dX1_bestLook_26 : decode cX1_bestLook 26 = .ok (.aload_n 0, 1) := by decide +kernel
theorem dX1_bestLook_27 : decode cX1_bestLook 27 = .ok (.getfield 32, 3) := by decide +kernel
theorem dX1_bestLook_30 : decode cX1_bestLook 30 = .ok (.if_icmp .ge 45, 3) := by decide +kernel
theorem dX1_bestLook_33 : decode cX1_bestLook 33 = .ok (.aload_n 1, 1) := by decide +kernel
theorem dX1_bestLook_34 : decode cX1_bestLook 34 = .ok (.iload_n 2, 1) := by decide +kernel
theorem dX1_bestLook_35 : decode cX1_bestLook 35 = .ok (.aload_n 0, 1) := by decide +kernel
theorem dX1_bestLook_36 : decode cX1_bestLook 36 = .ok (.getfield 25, 3) := by decide +kernel
theorem dX1_bestLook_39 : decode cX1_bestLook 39 = .ok (.iload 7, 2) := by decide +kernel
theorem dX1_bestLook_41 : decode cX1_bestLook 41 = .ok (.iaload, 1) := by decide +kernel
theorem dX1_bestLook_42 : decode cX1_bestLook 42 = .ok (.invokevirtual 43, 3) := by decide +kernel
theorem dX1_bestLook_45 : decode cX1_bestLook 45 = .ok (.ifCond .eq 6, 3) := by decide +kernel
theorem dX1_bestLook_48 : decode cX1_bestLook 48 = .ok (.iinc 6 1, 3) := by decide +kernel
theorem dX1_bestLook_51 : decode cX1_bestLook 51 = .ok (.aload_n 0, 1) := by decide +kernel
theorem dX1_bestLook_52 : decode cX1_bestLook 52 = .ok (.getfield 25, 3) := by decide +kernel
theorem dX1_bestLook_55 : decode cX1_bestLook 55 = .ok (.iload 7, 2) := by decide +kernel
theorem dX1_bestLook_57 : decode cX1_bestLook 57 = .ok (.aload_n 1, 1) := by decide +kernel
theorem dX1_bestLook_58 : decode cX1_bestLook 58 = .ok (.aload_n 0, 1) := by decide +kernel
theorem dX1_bestLook_59 : decode cX1_bestLook 59 = .ok (.getfield 25, 3) := by decide +kernel
theorem dX1_bestLook_62 : decode cX1_bestLook 62 = .ok (.iload 7, 2) := by decide +kernel
theorem dX1_bestLook_64 : decode cX1_bestLook 64 = .ok (.iaload, 1) := by decide +kernel
theorem dX1_bestLook_65 : decode cX1_bestLook 65 = .ok (.invokevirtual 49, 3) := by decide +kernel
theorem dX1_bestLook_68 : decode cX1_bestLook 68 = .ok (.iastore, 1) := by decide +kernel
theorem dX1_bestLook_69 : decode cX1_bestLook 69 = .ok (.iinc 7 1, 3) := by decide +kernel
theorem dX1_bestLook_72 : decode cX1_bestLook 72 = .ok (.goto (-48), 3) := by decide +kernel
theorem dX1_bestLook_75 : decode cX1_bestLook 75 = .ok (.iload 6, 2) := by decide +kernel
theorem dX1_bestLook_77 : decode cX1_bestLook 77 = .ok (.aload_n 0, 1) := by decide +kernel
theorem dX1_bestLook_78 : decode cX1_bestLook 78 = .ok (.getfield 32, 3) := by decide +kernel
theorem dX1_bestLook_81 : decode cX1_bestLook 81 = .ok (.iload 6, 2) := by decide +kernel
theorem dX1_bestLook_83 : decode cX1_bestLook 83 = .ok (.isub, 1) := by decide +kernel
theorem dX1_bestLook_84 : decode cX1_bestLook 84 = .ok (.invokestatic 53, 3) := by decide +kernel
theorem dX1_bestLook_87 : decode cX1_bestLook 87 = .ok (.istore 7, 2) := by decide +kernel
theorem dX1_bestLook_89 : decode cX1_bestLook 89 = .ok (.iload 7, 2) := by decide +kernel
theorem dX1_bestLook_91 : decode cX1_bestLook 91 = .ok (.iload 4, 2) := by decide +kernel
theorem dX1_bestLook_93 : decode cX1_bestLook 93 = .ok (.if_icmp .ge 10, 3) := by decide +kernel
theorem dX1_bestLook_96 : decode cX1_bestLook 96 = .ok (.iload 5, 2) := by decide +kernel
theorem dX1_bestLook_98 : decode cX1_bestLook 98 = .ok (.istore_n 3, 1) := by decide +kernel
theorem dX1_bestLook_99 : decode cX1_bestLook 99 = .ok (.iload 7, 2) := by decide +kernel
theorem dX1_bestLook_101 : decode cX1_bestLook 101 = .ok (.istore 4, 2) := by decide +kernel
theorem dX1_bestLook_103 : decode cX1_bestLook 103 = .ok (.iinc 5 1, 3) := by decide +kernel
theorem dX1_bestLook_106 : decode cX1_bestLook 106 = .ok (.goto (-95), 3) := by decide +kernel
theorem dX1_bestLook_109 : decode cX1_bestLook 109 = .ok (.iload_n 3, 1) := by decide +kernel
theorem dX1_bestLook_110 : decode cX1_bestLook 110 = .ok (.ireturn, 1) := by decide +kernel
