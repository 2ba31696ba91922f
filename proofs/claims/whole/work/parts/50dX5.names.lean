theorem dX5_init_0 : decode cX5_init 0 = .ok (.aload_n 0, 1) := by decide +kernel
theorem dX5_init_1 : decode cX5_init 1 = .ok (.invokespecial 3, 3) := by decide +kernel
theorem dX5_init_4 : decode cX5_init 4 = .ok (.aload_n 0, 1) := by decide +kernel
theorem dX5_init_5 : decode cX5_init 5 = .ok (.sipush 1000, 3) := by decide +kernel
theorem dX5_init_8 : decode cX5_init 8 = .ok (.newarray .int, 2) := by decide +kernel
theorem dX5_init_10 : decode cX5_init 10 = .ok (.putfield 9, 3) := by decide +kernel
theorem dX5_init_13 : decode cX5_init 13 = .ok (.return_, 1) := by decide +kernel
theorem dX5_work_0 : decode cX5_work 0 = .ok (.iconst 0, 1) := by decide +kernel
theorem dX5_work_1 : decode cX5_work 1 = .ok (.istore 5, 2) := by decide +kernel
theorem dX5_work_3 : decode cX5_work 3 = .ok (.iload 5, 2) := by decide +kernel
theorem dX5_work_5 : decode cX5_work 5 = .ok (.sipush 999, 3) := by decide +kernel
theorem dX5_work_8 : decode cX5_work 8 = .ok (.if_icmp .gt 17, 3) := by decide +kernel
theorem dX5_work_11 : decode cX5_work 11 = .ok (.aload_n 0, 1) := by decide +kernel
theorem dX5_work_12 : decode cX5_work 12 = .ok (.getfield 9, 3) := by decide +kernel
theorem dX5_work_15 : decode cX5_work 15 = .ok (.iload 5, 2) := by decide +kernel
theorem dX5_work_17 : decode cX5_work 17 = .ok (.iconst 0, 1) := by decide +kernel
theorem dX5_work_18 : decode cX5_work 18 = .ok (.iastore, 1) := by decide +kernel
theorem dX5_work_19 : decode cX5_work 19 = .ok (.iinc 5 1, 3) := by decide +kernel
theorem dX5_work_22 : decode cX5_work 22 = .ok (.goto (-19), 3) := by decide +kernel
theorem dX5_work_25 : decode cX5_work 25 = .ok (.iconst 1, 1) := by decide +kernel
theorem dX5_work_26 : decode cX5_work 26 = .ok (.istore 5, 2) := by decide +kernel
theorem dX5_work_28 : decode cX5_work 28 = .ok (.iload 5, 2) := by decide +kernel
theorem dX5_work_30 : decode cX5_work 30 = .ok (.iload 4, 2) := by decide +kernel
theorem dX5_work_32 : decode cX5_work 32 = .ok (.if_icmp .ge 15, 3) := by decide +kernel
theorem dX5_work_35 : decode cX5_work 35 = .ok (.aload_n 0, 1) := by decide +kernel
theorem dX5_work_36 : decode cX5_work 36 = .ok (.aload_n 1, 1) := by decide +kernel
theorem dX5_work_37 : decode cX5_work 37 = .ok (.iload_n 2, 1) := by decide +kernel
theorem dX5_work_38 : decode cX5_work 38 = .ok (.invokevirtual 15, 3) := by decide +kernel
theorem dX5_work_41 : decode cX5_work 41 = .ok (.iinc 5 1, 3) := by decide +kernel
theorem dX5_work_44 : decode cX5_work 44 = .ok (.goto (-16), 3) := by decide +kernel
theorem dX5_work_47 : decode cX5_work 47 = .ok (.aload_n 0, 1) := by decide +kernel
theorem dX5_work_48 : decode cX5_work 48 = .ok (.ldc 19, 2) := by decide +kernel
theorem dX5_work_50 : decode cX5_work 50 = .ok (.putfield 20, 3) := by decide +kernel
theorem dX5_work_53 : decode cX5_work 53 = .ok (.iload_n 3, 1) := by decide +kernel
theorem dX5_work_54 : decode cX5_work 54 = .ok (.aload_n 1, 1) := by decide +kernel
theorem dX5_work_55 : decode cX5_work 55 = .ok (.getfield 24, 3) := by decide +kernel
theorem dX5_work_58 : decode cX5_work 58 = .ok (.iload_n 2, 1) := by decide +kernel
theorem dX5_work_59 : decode cX5_work 59 = .ok (.iaload, 1) := by decide +kernel
theorem dX5_work_60 : decode cX5_work 60 = .ok (.invokestatic 29, 3) := by decide +kernel
theorem dX5_work_63 : decode cX5_work 63 = .ok (.istore 5, 2) := by decide +kernel
theorem dX5_work_65 : decode cX5_work 65 = .ok (.iconst 0, 1) := by decide +kernel
theorem dX5_work_66 : decode cX5_work 66 = .ok (.istore 6, 2) := by decide +kernel
theorem dX5_work_68 : decode cX5_work 68 = .ok (.iload 6, 2) := by decide +kernel
theorem dX5_work_70 : decode cX5_work 70 = .ok (.iload 5, 2) := by decide +kernel
theorem dX5_work_72 : decode cX5_work 72 = .ok (.if_icmp .gt 54, 3) := by decide +kernel
theorem dX5_work_75 : decode cX5_work 75 = .ok (.aload_n 0, 1) := by decide +kernel
theorem dX5_work_76 : decode cX5_work 76 = .ok (.aload_n 1, 1) := by decide +kernel
theorem dX5_work_77 : decode cX5_work 77 = .ok (.iload_n 2, 1) := by decide +kernel
theorem dX5_work_78 : decode cX5_work 78 = .ok (.iload 6, 2) := by decide +kernel
theorem dX5_work_80 : decode cX5_work 80 = .ok (.invokevirtual 35, 3) := by decide +kernel
theorem dX5_work_83 : decode cX5_work 83 = .ok (.iload_n 3, 1) := by decide +kernel
theorem dX5_work_84 : decode cX5_work 84 = .ok (.iadd, 1) := by decide +kernel
theorem dX5_work_85 : decode cX5_work 85 = .ok (.iload 6, 2) := by decide +kernel
theorem dX5_work_87 : decode cX5_work 87 = .ok (.isub, 1) := by decide +kernel
theorem dX5_work_88 : decode cX5_work 88 = .ok (.istore 7, 2) := by decide +kernel
theorem dX5_work_90 : decode cX5_work 90 = .ok (.iload 7, 2) := by decide +kernel
theorem dX5_work_92 : decode cX5_work 92 = .ok (.aload_n 0, 1) := by decide +kernel
theorem dX5_work_93 : decode cX5_work 93 = .ok (.getfield 20, 3) := by decide +kernel
theorem dX5_work_96 : decode cX5_work 96 = .ok (.if_icmp .gt 24, 3) := by decide +kernel
theorem dX5_work_99 : decode cX5_work 99 = .ok (.iload 7, 2) := by decide +kernel
theorem dX5_work_101 : decode cX5_work 101 = .ok (.ldc 19, 2) := by decide +kernel
theorem dX5_work_103 : decode cX5_work 103 = .ok (.if_icmp .ge 17, 3) := by decide +kernel
theorem dX5_work_106 : decode cX5_work 106 = .ok (.aload_n 0, 1) := by decide +kernel
theorem dX5_work_107 : decode cX5_work 107 = .ok (.iload 7, 2) := by decide +kernel
theorem dX5_work_109 : decode cX5_work 109 = .ok (.putfield 20, 3) := by decide +kernel
theorem dX5_work_112 : decode cX5_work 112 = .ok (.aload_n 0, 1) := by decide +kernel
theorem dX5_work_113 : decode cX5_work 113 = .ok (.iload_n 3, 1) := by decide +kernel
theorem dX5_work_114 : decode cX5_work 114 = .ok (.iload 6, 2) := by decide +kernel
theorem dX5_work_116 : decode cX5_work 116 = .ok (.isub, 1) := by decide +kernel
theorem dX5_work_117 : decode cX5_work 117 = .ok (.putfield 39, 3) := by decide +kernel
theorem dX5_work_120 : decode cX5_work 120 = .ok (.iinc 6 1, 3) := by decide +kernel
theorem dX5_work_123 : decode cX5_work 123 = .ok (.goto (-55), 3) := by decide +kernel
theorem dX5_work_126 : decode cX5_work 126 = .ok (.aload_n 0, 1) := by decide +kernel
theorem dX5_work_127 : decode cX5_work 127 = .ok (.getfield 20, 3) := by decide +kernel
theorem dX5_work_130 : decode cX5_work 130 = .ok (.ldc 19, 2) := by decide +kernel
theorem dX5_work_132 : decode cX5_work 132 = .ok (.if_icmp .ge 7, 3) := by decide +kernel
theorem dX5_work_135 : decode cX5_work 135 = .ok (.iconst 1, 1) := by decide +kernel
theorem dX5_work_136 : decode cX5_work 136 = .ok (.goto 4, 3) := by decide +kernel
theorem dX5_work_139 : decode cX5_work 139 = .ok (.iconst 0, 1) := by decide +kernel
theorem dX5_work_140 : decode cX5_work 140 = .ok (.ireturn, 1) := by decide +kernel
theorem dX5_addQuarter_0 : decode cX5_addQuarter 0 = .ok (.ldc 19, 2) := by decide +kernel
theorem dX5_addQuarter_2 : decode cX5_addQuarter 2 = .ok (.istore_n 3, 1) := by decide +kernel
theorem dX5_addQuarter_3 : decode cX5_addQuarter 3 = .ok (.iconst 0, 1) := by decide +kernel
theorem dX5_addQuarter_4 : decode cX5_addQuarter 4 = .ok (.istore 4, 2) := by decide +kernel
theorem dX5_addQuarter_6 : decode cX5_addQuarter 6 = .ok (.iload 4, 2) := by decide +kernel
theorem dX5_addQuarter_8 : decode cX5_addQuarter 8 = .ok (.sipush 999, 3) := by decide +kernel
theorem dX5_addQuarter_11 : decode cX5_addQuarter 11 = .ok (.if_icmp .gt 69, 3) := by decide +kernel
theorem dX5_addQuarter_14 : decode cX5_addQuarter 14 = .ok (.iload 4, 2) := by decide +kernel
theorem dX5_addQuarter_16 : decode cX5_addQuarter 16 = .ok (.aload_n 1, 1) := by decide +kernel
theorem dX5_addQuarter_17 : decode cX5_addQuarter 17 = .ok (.getfield 24, 3) := by decide +kernel
theorem dX5_addQuarter_20 : decode cX5_addQuarter 20 = .ok (.iload_n 2, 1) := by decide +kernel
theorem dX5_addQuarter_21 : decode cX5_addQuarter 21 = .ok (.iaload, 1) := by decide +kernel
theorem dX5_addQuarter_22 : decode cX5_addQuarter 22 = .ok (.if_icmp .gt 58, 3) := by decide +kernel
theorem dX5_addQuarter_25 : decode cX5_addQuarter 25 = .ok (.aload_n 0, 1) := by decide +kernel
theorem dX5_addQuarter_26 : decode cX5_addQuarter 26 = .ok (.aload_n 1, 1) := by decide +kernel
theorem dX5_addQuarter_27 : decode cX5_addQuarter 27 = .ok (.iload_n 2, 1) := by decide +kernel
theorem dX5_addQuarter_28 : decode cX5_addQuarter 28 = .ok (.iload 4, 2) := by decide +kernel
theorem dX5_addQuarter_30 : decode cX5_addQuarter 30 = .ok (.invokevirtual 35, 3) := by decide +kernel
theorem dX5_addQuarter_33 : decode cX5_addQuarter 33 = .ok (.istore 5, 2) := by decide +kernel
theorem dX5_addQuarter_35 : decode cX5_addQuarter 35 = .ok (.iload 5, 2) := by decide +kernel
theorem dX5_addQuarter_37 : decode cX5_addQuarter 37 = .ok (.ldc 19, 2) := by decide +kernel
theorem dX5_addQuarter_39 : decode cX5_addQuarter 39 = .ok (.if_icmp .ge 13, 3) := by decide +kernel
theorem dX5_addQuarter_42 : decode cX5_addQuarter 42 = .ok (.iload_n 3, 1) := by decide +kernel
theorem dX5_addQuarter_43 : decode cX5_addQuarter 43 = .ok (.iload 5, 2) := by decide +kernel
theorem dX5_addQuarter_45 : decode cX5_addQuarter 45 = .ok (.iload 4, 2) := by decide +kernel
theorem dX5_addQuarter_47 : decode cX5_addQuarter 47 = .ok (.isub, 1) := by decide +kernel
theorem dX5_addQuarter_48 : decode cX5_addQuarter 48 = .ok (.invokestatic 29, 3) := by decide +kernel
theorem dX5_addQuarter_51 : decode cX5_addQuarter 51 = .ok (.istore_n 3, 1) := by decide +kernel
theorem dX5_addQuarter_52 : decode cX5_addQuarter 52 = .ok (.aload_n 0, 1) := by decide +kernel
theorem dX5_addQuarter_53 : decode cX5_addQuarter 53 = .ok (.getfield 9, 3) := by decide +kernel
theorem dX5_addQuarter_56 : decode cX5_addQuarter 56 = .ok (.iload 4, 2) := by decide +kernel
theorem dX5_addQuarter_58 : decode cX5_addQuarter 58 = .ok (.iload_n 3, 1) := by decide +kernel
theorem dX5_addQuarter_59 : decode cX5_addQuarter 59 = .ok (.ldc 19, 2) := by decide +kernel
theorem dX5_addQuarter_61 : decode cX5_addQuarter 61 = .ok (.if_icmp .ne 8, 3) := by decide +kernel
theorem dX5_addQuarter_64 : decode cX5_addQuarter 64 = .ok (.ldc 19, 2) := by decide +kernel
theorem dX5_addQuarter_66 : decode cX5_addQuarter 66 = .ok (.goto 7, 3) := by decide +kernel
theorem dX5_addQuarter_69 : decode cX5_addQuarter 69 = .ok (.iload_n 3, 1) := by decide +kernel
theorem dX5_addQuarter_70 : decode cX5_addQuarter 70 = .ok (.iload 4, 2) := by decide +kernel
theorem dX5_addQuarter_72 : decode cX5_addQuarter 72 = .ok (.iadd, 1) := by decide +kernel
theorem dX5_addQuarter_73 : decode cX5_addQuarter 73 = .ok (.iastore, 1) := by decide +kernel
theorem dX5_addQuarter_74 : decode cX5_addQuarter 74 = .ok (.iinc 4 1, 3) := by decide +kernel
theorem dX5_addQuarter_77 : decode cX5_addQuarter 77 = .ok (.goto (-71), 3) := by decide +kernel
theorem dX5_addQuarter_80 : decode cX5_addQuarter 80 = .ok (.return_, 1) := by decide +kernel
theorem dX5_costFrom_0 : decode cX5_costFrom 0 = .ok (.aload_n 1, 1) := by decide +kernel
theorem dX5_costFrom_1 : decode cX5_costFrom 1 = .ok (.iload_n 3, 1) := by decide +kernel
theorem dX5_costFrom_2 : decode cX5_costFrom 2 = .ok (.invokevirtual 42, 3) := by decide +kernel
theorem dX5_costFrom_5 : decode cX5_costFrom 5 = .ok (.istore 4, 2) := by decide +kernel
theorem dX5_costFrom_7 : decode cX5_costFrom 7 = .ok (.iload 4, 2) := by decide +kernel
theorem dX5_costFrom_9 : decode cX5_costFrom 9 = .ok (.ifCond .lt 15, 3) := by decide +kernel
theorem dX5_costFrom_12 : decode cX5_costFrom 12 = .ok (.iload 4, 2) := by decide +kernel
theorem dX5_costFrom_14 : decode cX5_costFrom 14 = .ok (.sipush 999, 3) := by decide +kernel
theorem dX5_costFrom_17 : decode cX5_costFrom 17 = .ok (.if_icmp .gt 7, 3) := by decide +kernel
theorem dX5_costFrom_20 : decode cX5_costFrom 20 = .ok (.iconst 1, 1) := by decide +kernel
theorem dX5_costFrom_21 : decode cX5_costFrom 21 = .ok (.goto 4, 3) := by decide +kernel
theorem dX5_costFrom_24 : decode cX5_costFrom 24 = .ok (.iconst 0, 1) := by decide +kernel
theorem dX5_costFrom_25 : decode cX5_costFrom 25 = .ok (.istore 5, 2) := by decide +kernel
theorem dX5_costFrom_27 : decode cX5_costFrom 27 = .ok (.iload 5, 2) := by decide +kernel
theorem dX5_costFrom_29 : decode cX5_costFrom 29 = .ok (.ifCond .eq 23, 3) := by decide +kernel
theorem dX5_costFrom_32 : decode cX5_costFrom 32 = .ok (.aload_n 1, 1) := by decide +kernel
theorem dX5_costFrom_33 : decode cX5_costFrom 33 = .ok (.iload_n 2, 1) := by decide +kernel
theorem dX5_costFrom_34 : decode cX5_costFrom 34 = .ok (.iload 4, 2) := by decide +kernel
theorem dX5_costFrom_36 : decode cX5_costFrom 36 = .ok (.invokevirtual 46, 3) := by decide +kernel
theorem dX5_costFrom_39 : decode cX5_costFrom 39 = .ok (.ifCond .eq 13, 3) := by decide +kernel
theorem dX5_costFrom_42 : decode cX5_costFrom 42 = .ok (.aload_n 0, 1) := by decide +kernel
theorem dX5_costFrom_43 : decode cX5_costFrom 43 = .ok (.getfield 9, 3) := by decide +kernel
theorem dX5_costFrom_46 : decode cX5_costFrom 46 = .ok (.iload 4, 2) := by decide +kernel
theorem dX5_costFrom_48 : decode cX5_costFrom 48 = .ok (.iaload, 1) := by decide +kernel
theorem dX5_costFrom_49 : decode cX5_costFrom 49 = .ok (.goto 5, 3) := by decide +kernel
theorem dX5_costFrom_52 : decode cX5_costFrom 52 = .ok (.ldc 19, 2) := by decide +kernel
theorem dX5_costFrom_54 : decode cX5_costFrom 54 = .ok (.ireturn, 1) := by decide +kernel
