theorem dX10_told_128 : decode cX10_told 128 = .ok (.aload_n 0, 1) := by decide +kernel
theorem dX10_told_129 : decode cX10_told 129 = .ok (.getfield 69, 3) := by decide +kernel
theorem dX10_told_132 : decode cX10_told 132 = .ok (.ireturn, 1) := by decide +kernel
theorem dX10_told_133 : decode cX10_told 133 = .ok (.ldc 80, 2) := by decide +kernel
theorem dX10_told_135 : decode cX10_told 135 = .ok (.ireturn, 1) := by decide +kernel
theorem dX10_whoAre_0 : decode cX10_whoAre 0 = .ok (.iconst 0, 1) := by decide +kernel
theorem dX10_whoAre_1 : decode cX10_whoAre 1 = .ok (.istore_n 3, 1) := by decide +kernel
theorem dX10_whoAre_2 : decode cX10_whoAre 2 = .ok (.iconst 0, 1) := by decide +kernel
theorem dX10_whoAre_3 : decode cX10_whoAre 3 = .ok (.istore 4, 2) := by decide +kernel
theorem dX10_whoAre_5 : decode cX10_whoAre 5 = .ok (.iload 4, 2) := by decide +kernel
theorem dX10_whoAre_7 : decode cX10_whoAre 7 = .ok (.aload_n 0, 1) := by decide +kernel
theorem dX10_whoAre_8 : decode cX10_whoAre 8 = .ok (.getfield 7, 3) := by decide +kernel
theorem dX10_whoAre_11 : decode cX10_whoAre 11 = .ok (.iconst 4, 1) := by decide +kernel
theorem dX10_whoAre_12 : decode cX10_whoAre 12 = .ok (.iaload, 1) := by decide +kernel
theorem dX10_whoAre_13 : decode cX10_whoAre 13 = .ok (.if_icmp .ge 35, 3) := by decide +kernel
theorem dX10_whoAre_16 : decode cX10_whoAre 16 = .ok (.iload_n 3, 1) := by decide +kernel
theorem dX10_whoAre_17 : decode cX10_whoAre 17 = .ok (.aload_n 0, 1) := by decide +kernel
theorem dX10_whoAre_18 : decode cX10_whoAre 18 = .ok (.aload_n 0, 1) := by decide +kernel
theorem dX10_whoAre_19 : decode cX10_whoAre 19 = .ok (.getfield 16, 3) := by decide +kernel
theorem dX10_whoAre_22 : decode cX10_whoAre 22 = .ok (.iload 4, 2) := by decide +kernel
theorem dX10_whoAre_24 : decode cX10_whoAre 24 = .ok (.iload_n 1, 1) := by decide +kernel
theorem dX10_whoAre_25 : decode cX10_whoAre 25 = .ok (.invokevirtual 146, 3) := by decide +kernel
theorem dX10_whoAre_28 : decode cX10_whoAre 28 = .ok (.iload_n 2, 1) := by decide +kernel
theorem dX10_whoAre_29 : decode cX10_whoAre 29 = .ok (.if_icmp .ne 10, 3) := by decide +kernel
theorem dX10_whoAre_32 : decode cX10_whoAre 32 = .ok (.iconst 1, 1) := by decide +kernel
theorem dX10_whoAre_33 : decode cX10_whoAre 33 = .ok (.iload 4, 2) := by decide +kernel
theorem dX10_whoAre_35 : decode cX10_whoAre 35 = .ok (.ishl, 1) := by decide +kernel
theorem dX10_whoAre_36 : decode cX10_whoAre 36 = .ok (.goto 4, 3) := by decide +kernel
theorem dX10_whoAre_39 : decode cX10_whoAre 39 = .ok (.iconst 0, 1) := by decide +kernel
theorem dX10_whoAre_40 : decode cX10_whoAre 40 = .ok (.ior, 1) := by decide +kernel
theorem dX10_whoAre_41 : decode cX10_whoAre 41 = .ok (.istore_n 3, 1) := by decide +kernel
theorem dX10_whoAre_42 : decode cX10_whoAre 42 = .ok (.iinc 4 1, 3) := by decide +kernel
theorem dX10_whoAre_45 : decode cX10_whoAre 45 = .ok (.goto (-40), 3) := by decide +kernel
theorem dX10_whoAre_48 : decode cX10_whoAre 48 = .ok (.iload_n 3, 1) := by decide +kernel
theorem dX10_whoAre_49 : decode cX10_whoAre 49 = .ok (.ireturn, 1) := by decide +kernel
theorem dX10_creditor_0 : decode cX10_creditor 0 = .ok (.aload_n 0, 1) := by decide +kernel
theorem dX10_creditor_1 : decode cX10_creditor 1 = .ok (.iload_n 1, 1) := by decide +kernel
theorem dX10_creditor_2 : decode cX10_creditor 2 = .ok (.invokevirtual 172, 3) := by decide +kernel
theorem dX10_creditor_5 : decode cX10_creditor 5 = .ok (.ifCond .ne 6, 3) := by decide +kernel
theorem dX10_creditor_8 : decode cX10_creditor 8 = .ok (.ldc 175, 2) := by decide +kernel
theorem dX10_creditor_10 : decode cX10_creditor 10 = .ok (.ireturn, 1) := by decide +kernel
theorem dX10_creditor_11 : decode cX10_creditor 11 = .ok (.iload_n 2, 1) := by decide +kernel
theorem dX10_creditor_12 : decode cX10_creditor 12 = .ok (.tableswitch 80 0 5 #[40, 50, 50, 50, 66, 73], 40) := by decide +kernel
theorem dX10_creditor_52 : decode cX10_creditor 52 = .ok (.aload_n 0, 1) := by decide +kernel
theorem dX10_creditor_53 : decode cX10_creditor 53 = .ok (.getfield 16, 3) := by decide +kernel
theorem dX10_creditor_56 : decode cX10_creditor 56 = .ok (.bipush 32, 2) := by decide +kernel
theorem dX10_creditor_58 : decode cX10_creditor 58 = .ok (.iload_n 1, 1) := by decide +kernel
theorem dX10_creditor_59 : decode cX10_creditor 59 = .ok (.iadd, 1) := by decide +kernel
theorem dX10_creditor_60 : decode cX10_creditor 60 = .ok (.iaload, 1) := by decide +kernel
theorem dX10_creditor_61 : decode cX10_creditor 61 = .ok (.ireturn, 1) := by decide +kernel
theorem dX10_creditor_62 : decode cX10_creditor 62 = .ok (.aload_n 0, 1) := by decide +kernel
theorem dX10_creditor_63 : decode cX10_creditor 63 = .ok (.getfield 7, 3) := by decide +kernel
theorem dX10_creditor_66 : decode cX10_creditor 66 = .ok (.bipush 9, 2) := by decide +kernel
theorem dX10_creditor_68 : decode cX10_creditor 68 = .ok (.iconst 4, 1) := by decide +kernel
theorem dX10_creditor_69 : decode cX10_creditor 69 = .ok (.iload_n 2, 1) := by decide +kernel
theorem dX10_creditor_70 : decode cX10_creditor 70 = .ok (.iconst 1, 1) := by decide +kernel
theorem dX10_creditor_71 : decode cX10_creditor 71 = .ok (.isub, 1) := by decide +kernel
theorem dX10_creditor_72 : decode cX10_creditor 72 = .ok (.imul, 1) := by decide +kernel
theorem dX10_creditor_73 : decode cX10_creditor 73 = .ok (.iadd, 1) := by decide +kernel
theorem dX10_creditor_74 : decode cX10_creditor 74 = .ok (.iload_n 1, 1) := by decide +kernel
theorem dX10_creditor_75 : decode cX10_creditor 75 = .ok (.iadd, 1) := by decide +kernel
theorem dX10_creditor_76 : decode cX10_creditor 76 = .ok (.iaload, 1) := by decide +kernel
theorem dX10_creditor_77 : decode cX10_creditor 77 = .ok (.ireturn, 1) := by decide +kernel
theorem dX10_creditor_78 : decode cX10_creditor 78 = .ok (.aload_n 0, 1) := by decide +kernel
theorem dX10_creditor_79 : decode cX10_creditor 79 = .ok (.iload_n 1, 1) := by decide +kernel
theorem dX10_creditor_80 : decode cX10_creditor 80 = .ok (.iconst 1, 1) := by decide +kernel
theorem dX10_creditor_81 : decode cX10_creditor 81 = .ok (.invokevirtual 176, 3) := by decide +kernel
theorem dX10_creditor_84 : decode cX10_creditor 84 = .ok (.ireturn, 1) := by decide +kernel
theorem dX10_creditor_85 : decode cX10_creditor 85 = .ok (.aload_n 0, 1) := by decide +kernel
theorem dX10_creditor_86 : decode cX10_creditor 86 = .ok (.iload_n 1, 1) := by decide +kernel
theorem dX10_creditor_87 : decode cX10_creditor 87 = .ok (.iconst 2, 1) := by decide +kernel
theorem dX10_creditor_88 : decode cX10_creditor 88 = .ok (.invokevirtual 176, 3) := by decide +kernel
theorem dX10_creditor_91 : decode cX10_creditor 91 = .ok (.ireturn, 1) := by decide +kernel
theorem dX10_creditor_92 : decode cX10_creditor 92 = .ok (.ldc 80, 2) := by decide +kernel
theorem dX10_creditor_94 : decode cX10_creditor 94 = .ok (.ireturn, 1) := by decide +kernel
theorem dX10_person_0 : decode cX10_person 0 = .ok (.aload_n 0, 1) := by decide +kernel
theorem dX10_person_1 : decode cX10_person 1 = .ok (.iload_n 1, 1) := by decide +kernel
theorem dX10_person_2 : decode cX10_person 2 = .ok (.invokevirtual 139, 3) := by decide +kernel
theorem dX10_person_5 : decode cX10_person 5 = .ok (.ifCond .ne 6, 3) := by decide +kernel
theorem dX10_person_8 : decode cX10_person 8 = .ok (.ldc 175, 2) := by decide +kernel
theorem dX10_person_10 : decode cX10_person 10 = .ok (.ireturn, 1) := by decide +kernel
theorem dX10_person_11 : decode cX10_person 11 = .ok (.iload_n 2, 1) := by decide +kernel
theorem dX10_person_12 : decode cX10_person 12 = .ok (.tableswitch 96 0 4 #[36, 56, 66, 76, 86], 36) := by decide +kernel
theorem dX10_person_48 : decode cX10_person 48 = .ok (.aload_n 0, 1) := by decide +kernel
theorem dX10_person_49 : decode cX10_person 49 = .ok (.getfield 7, 3) := by decide +kernel
theorem dX10_person_52 : decode cX10_person 52 = .ok (.bipush 21, 2) := by decide +kernel
theorem dX10_person_54 : decode cX10_person 54 = .ok (.iaload, 1) := by decide +kernel
theorem dX10_person_55 : decode cX10_person 55 = .ok (.iload_n 1, 1) := by decide +kernel
theorem dX10_person_56 : decode cX10_person 56 = .ok (.invokestatic 142, 3) := by decide +kernel
theorem dX10_person_59 : decode cX10_person 59 = .ok (.ifCond .eq 7, 3) := by decide +kernel
theorem dX10_person_62 : decode cX10_person 62 = .ok (.iconst 1, 1) := by decide +kernel
theorem dX10_person_63 : decode cX10_person 63 = .ok (.goto 4, 3) := by decide +kernel
theorem dX10_person_66 : decode cX10_person 66 = .ok (.iconst 0, 1) := by decide +kernel
theorem dX10_person_67 : decode cX10_person 67 = .ok (.ireturn, 1) := by decide +kernel
theorem dX10_person_68 : decode cX10_person 68 = .ok (.aload_n 0, 1) := by decide +kernel
theorem dX10_person_69 : decode cX10_person 69 = .ok (.getfield 16, 3) := by decide +kernel
theorem dX10_person_72 : decode cX10_person 72 = .ok (.bipush 44, 2) := by decide +kernel
theorem dX10_person_74 : decode cX10_person 74 = .ok (.iload_n 1, 1) := by decide +kernel
theorem dX10_person_75 : decode cX10_person 75 = .ok (.iadd, 1) := by decide +kernel
theorem dX10_person_76 : decode cX10_person 76 = .ok (.iaload, 1) := by decide +kernel
theorem dX10_person_77 : decode cX10_person 77 = .ok (.ireturn, 1) := by decide +kernel
theorem dX10_person_78 : decode cX10_person 78 = .ok (.aload_n 0, 1) := by decide +kernel
theorem dX10_person_79 : decode cX10_person 79 = .ok (.aload_n 0, 1) := by decide +kernel
theorem dX10_person_80 : decode cX10_person 80 = .ok (.getfield 16, 3) := by decide +kernel
theorem dX10_person_83 : decode cX10_person 83 = .ok (.iload_n 1, 1) := by decide +kernel
theorem dX10_person_84 : decode cX10_person 84 = .ok (.invokevirtual 162, 3) := by decide +kernel
theorem dX10_person_87 : decode cX10_person 87 = .ok (.ireturn, 1) := by decide +kernel
theorem dX10_person_88 : decode cX10_person 88 = .ok (.aload_n 0, 1) := by decide +kernel
theorem dX10_person_89 : decode cX10_person 89 = .ok (.aload_n 0, 1) := by decide +kernel
theorem dX10_person_90 : decode cX10_person 90 = .ok (.getfield 16, 3) := by decide +kernel
theorem dX10_person_93 : decode cX10_person 93 = .ok (.iload_n 1, 1) := by decide +kernel
theorem dX10_person_94 : decode cX10_person 94 = .ok (.invokevirtual 179, 3) := by decide +kernel
theorem dX10_person_97 : decode cX10_person 97 = .ok (.ireturn, 1) := by decide +kernel
theorem dX10_person_98 : decode cX10_person 98 = .ok (.aload_n 0, 1) := by decide +kernel
theorem dX10_person_99 : decode cX10_person 99 = .ok (.getfield 16, 3) := by decide +kernel
theorem dX10_person_102 : decode cX10_person 102 = .ok (.bipush 36, 2) := by decide +kernel
theorem dX10_person_104 : decode cX10_person 104 = .ok (.iload_n 1, 1) := by decide +kernel
theorem dX10_person_105 : decode cX10_person 105 = .ok (.iadd, 1) := by decide +kernel
theorem dX10_person_106 : decode cX10_person 106 = .ok (.iaload, 1) := by decide +kernel
theorem dX10_person_107 : decode cX10_person 107 = .ok (.ireturn, 1) := by decide +kernel
theorem dX10_person_108 : decode cX10_person 108 = .ok (.ldc 80, 2) := by decide +kernel
theorem dX10_person_110 : decode cX10_person 110 = .ok (.ireturn, 1) := by decide +kernel
theorem dX10_owes_0 : decode cX10_owes 0 = .ok (.aload_n 0, 1) := by decide +kernel
theorem dX10_owes_1 : decode cX10_owes 1 = .ok (.iload_n 1, 1) := by decide +kernel
theorem dX10_owes_2 : decode cX10_owes 2 = .ok (.invokevirtual 139, 3) := by decide +kernel
theorem dX10_owes_5 : decode cX10_owes 5 = .ok (.ifCond .eq 26, 3) := by decide +kernel
theorem dX10_owes_8 : decode cX10_owes 8 = .ok (.aload_n 0, 1) := by decide +kernel
theorem dX10_owes_9 : decode cX10_owes 9 = .ok (.iload_n 2, 1) := by decide +kernel
theorem dX10_owes_10 : decode cX10_owes 10 = .ok (.invokevirtual 172, 3) := by decide +kernel
theorem dX10_owes_13 : decode cX10_owes 13 = .ok (.ifCond .eq 18, 3) := by decide +kernel
theorem dX10_owes_16 : decode cX10_owes 16 = .ok (.aload_n 0, 1) := by decide +kernel
theorem dX10_owes_17 : decode cX10_owes 17 = .ok (.getfield 16, 3) := by decide +kernel
theorem dX10_owes_20 : decode cX10_owes 20 = .ok (.iconst 0, 1) := by decide +kernel
theorem dX10_owes_21 : decode cX10_owes 21 = .ok (.iconst 4, 1) := by decide +kernel
theorem dX10_owes_22 : decode cX10_owes 22 = .ok (.iload_n 1, 1) := by decide +kernel
theorem dX10_owes_23 : decode cX10_owes 23 = .ok (.imul, 1) := by decide +kernel
theorem dX10_owes_24 : decode cX10_owes 24 = .ok (.iadd, 1) := by decide +kernel
theorem dX10_owes_25 : decode cX10_owes 25 = .ok (.iload_n 2, 1) := by decide +kernel
theorem dX10_owes_26 : decode cX10_owes 26 = .ok (.iadd, 1) := by decide +kernel
theorem dX10_owes_27 : decode cX10_owes 27 = .ok (.iaload, 1) := by decide +kernel
theorem dX10_owes_28 : decode cX10_owes 28 = .ok (.goto 5, 3) := by decide +kernel
theorem dX10_owes_31 : decode cX10_owes 31 = .ok (.ldc 175, 2) := by decide +kernel
theorem dX10_owes_33 : decode cX10_owes 33 = .ok (.ireturn, 1) := by decide +kernel
theorem dX10_temper_0 : decode cX10_temper 0 = .ok (.aload_n 0, 1) := by decide +kernel
theorem dX10_temper_1 : decode cX10_temper 1 = .ok (.iload_n 1, 1) := by decide +kernel
theorem dX10_temper_2 : decode cX10_temper 2 = .ok (.invokevirtual 139, 3) := by decide +kernel
theorem dX10_temper_5 : decode cX10_temper 5 = .ok (.ifCond .eq 24, 3) := by decide +kernel
theorem dX10_temper_8 : decode cX10_temper 8 = .ok (.aload_n 0, 1) := by decide +kernel
theorem dX10_temper_9 : decode cX10_temper 9 = .ok (.iload_n 2, 1) := by decide +kernel
theorem dX10_temper_10 : decode cX10_temper 10 = .ok (.invokevirtual 172, 3) := by decide +kernel
theorem dX10_temper_13 : decode cX10_temper 13 = .ok (.ifCond .eq 16, 3) := by decide +kernel
theorem dX10_temper_16 : decode cX10_temper 16 = .ok (.aload_n 0, 1) := by decide +kernel
theorem dX10_temper_17 : decode cX10_temper 17 = .ok (.aload_n 0, 1) := by decide +kernel
theorem dX10_temper_18 : decode cX10_temper 18 = .ok (.getfield 16, 3) := by decide +kernel
theorem dX10_temper_21 : decode cX10_temper 21 = .ok (.iload_n 1, 1) := by decide +kernel
theorem dX10_temper_22 : decode cX10_temper 22 = .ok (.iload_n 2, 1) := by decide +kernel
theorem dX10_temper_23 : decode cX10_temper 23 = .ok (.invokevirtual 146, 3) := by decide +kernel
theorem dX10_temper_26 : decode cX10_temper 26 = .ok (.goto 5, 3) := by decide +kernel
theorem dX10_temper_29 : decode cX10_temper 29 = .ok (.ldc 175, 2) := by decide +kernel
theorem dX10_temper_31 : decode cX10_temper 31 = .ok (.ireturn, 1) := by decide +kernel
theorem dX10_remember_0 : decode cX10_remember 0 = .ok (.aload_n 0, 1) := by decide +kernel
theorem dX10_remember_1 : decode cX10_remember 1 = .ok (.getfield 69, 3) := by decide +kernel
theorem dX10_remember_4 : decode cX10_remember 4 = .ok (.bipush 30, 2) := by decide +kernel
theorem dX10_remember_6 : decode cX10_remember 6 = .ok (.if_icmp .ne 43, 3) := by decide +kernel
theorem dX10_remember_9 : decode cX10_remember 9 = .ok (.iconst 0, 1) := by decide +kernel
theorem dX10_remember_10 : decode cX10_remember 10 = .ok (.istore_n 1, 1) := by decide +kernel
theorem dX10_remember_11 : decode cX10_remember 11 = .ok (.iload_n 1, 1) := by decide +kernel
theorem dX10_remember_12 : decode cX10_remember 12 = .ok (.sipush 1566, 3) := by decide +kernel
theorem dX10_remember_15 : decode cX10_remember 15 = .ok (.if_icmp .ge 24, 3) := by decide +kernel
theorem dX10_remember_18 : decode cX10_remember 18 = .ok (.aload_n 0, 1) := by decide +kernel
theorem dX10_remember_19 : decode cX10_remember 19 = .ok (.getfield 22, 3) := by decide +kernel
theorem dX10_remember_22 : decode cX10_remember 22 = .ok (.iload_n 1, 1) := by decide +kernel
theorem dX10_remember_23 : decode cX10_remember 23 = .ok (.aload_n 0, 1) := by decide +kernel
theorem dX10_remember_24 : decode cX10_remember 24 = .ok (.getfield 22, 3) := by decide +kernel
theorem dX10_remember_27 : decode cX10_remember 27 = .ok (.iload_n 1, 1) := by decide +kernel
theorem dX10_remember_28 : decode cX10_remember 28 = .ok (.bipush 54, 2) := by decide +kernel
theorem dX10_remember_30 : decode cX10_remember 30 = .ok (.iadd, 1) := by decide +kernel
theorem dX10_remember_31 : decode cX10_remember 31 = .ok (.iaload, 1) := by decide +kernel
theorem dX10_remember_32 : decode cX10_remember 32 = .ok (.iastore, 1) := by decide +kernel
theorem dX10_remember_33 : decode cX10_remember 33 = .ok (.iinc 1 1, 3) := by decide +kernel
theorem dX10_remember_36 : decode cX10_remember 36 = .ok (.goto (-25), 3) := by decide +kernel
theorem dX10_remember_39 : decode cX10_remember 39 = .ok (.aload_n 0, 1) := by decide +kernel
theorem dX10_remember_40 : decode cX10_remember 40 = .ok (.dup, 1) := by decide +kernel
theorem dX10_remember_41 : decode cX10_remember 41 = .ok (.getfield 69, 3) := by decide +kernel
theorem dX10_remember_44 : decode cX10_remember 44 = .ok (.iconst 1, 1) := by decide +kernel
theorem dX10_remember_45 : decode cX10_remember 45 = .ok (.isub, 1) := by decide +kernel
theorem dX10_remember_46 : decode cX10_remember 46 = .ok (.putfield 69, 3) := by decide +kernel
theorem dX10_remember_49 : decode cX10_remember 49 = .ok (.aload_n 0, 1) := by decide +kernel
theorem dX10_remember_50 : decode cX10_remember 50 = .ok (.getfield 16, 3) := by decide +kernel
theorem dX10_remember_53 : decode cX10_remember 53 = .ok (.iconst 0, 1) := by decide +kernel
theorem dX10_remember_54 : decode cX10_remember 54 = .ok (.aload_n 0, 1) := by decide +kernel
theorem dX10_remember_55 : decode cX10_remember 55 = .ok (.getfield 22, 3) := by decide +kernel
theorem dX10_remember_58 : decode cX10_remember 58 = .ok (.bipush 54, 2) := by decide +kernel
theorem dX10_remember_60 : decode cX10_remember 60 = .ok (.aload_n 0, 1) := by decide +kernel
theorem dX10_remember_61 : decode cX10_remember 61 = .ok (.getfield 69, 3) := by decide +kernel
theorem dX10_remember_64 : decode cX10_remember 64 = .ok (.imul, 1) := by decide +kernel
theorem dX10_remember_65 : decode cX10_remember 65 = .ok (.bipush 54, 2) := by decide +kernel
theorem dX10_remember_67 : decode cX10_remember 67 = .ok (.invokestatic 57, 3) := by decide +kernel
theorem dX10_remember_70 : decode cX10_remember 70 = .ok (.aload_n 0, 1) := by decide +kernel
theorem dX10_remember_71 : decode cX10_remember 71 = .ok (.dup, 1) := by decide +kernel
theorem dX10_remember_72 : decode cX10_remember 72 = .ok (.getfield 69, 3) := by decide +kernel
theorem dX10_remember_75 : decode cX10_remember 75 = .ok (.iconst 1, 1) := by decide +kernel
theorem dX10_remember_76 : decode cX10_remember 76 = .ok (.iadd, 1) := by decide +kernel
theorem dX10_remember_77 : decode cX10_remember 77 = .ok (.putfield 69, 3) := by decide +kernel
theorem dX10_remember_80 : decode cX10_remember 80 = .ok (.return_, 1) := by decide +kernel
theorem dX10_isWedMan_0 : decode cX10_isWedMan 0 = .ok (.aload_n 0, 1) := by decide +kernel
theorem dX10_isWedMan_1 : decode cX10_isWedMan 1 = .ok (.iload_n 1, 1) := by decide +kernel
theorem dX10_isWedMan_2 : decode cX10_isWedMan 2 = .ok (.invokevirtual 182, 3) := by decide +kernel
theorem dX10_isWedMan_5 : decode cX10_isWedMan 5 = .ok (.ifCond .eq 20, 3) := by decide +kernel
theorem dX10_isWedMan_8 : decode cX10_isWedMan 8 = .ok (.aload_n 0, 1) := by decide +kernel
theorem dX10_isWedMan_9 : decode cX10_isWedMan 9 = .ok (.getfield 16, 3) := by decide +kernel
theorem dX10_isWedMan_12 : decode cX10_isWedMan 12 = .ok (.bipush 44, 2) := by decide +kernel
theorem dX10_isWedMan_14 : decode cX10_isWedMan 14 = .ok (.iload_n 1, 1) := by decide +kernel
theorem dX10_isWedMan_15 : decode cX10_isWedMan 15 = .ok (.iadd, 1) := by decide +kernel
theorem dX10_isWedMan_16 : decode cX10_isWedMan 16 = .ok (.iaload, 1) := by decide +kernel
theorem dX10_isWedMan_17 : decode cX10_isWedMan 17 = .ok (.iconst (-1), 1) := by decide +kernel
theorem dX10_isWedMan_18 : decode cX10_isWedMan 18 = .ok (.if_icmp .eq 7, 3) := by decide +kernel
theorem dX10_isWedMan_21 : decode cX10_isWedMan 21 = .ok (.iconst 1, 1) := by decide +kernel
theorem dX10_isWedMan_22 : decode cX10_isWedMan 22 = .ok (.goto 4, 3) := by decide +kernel
theorem dX10_isWedMan_25 : decode cX10_isWedMan 25 = .ok (.iconst 0, 1) := by decide +kernel
theorem dX10_isWedMan_26 : decode cX10_isWedMan 26 = .ok (.ireturn, 1) := by decide +kernel
theorem dX10_mayBorrow_0 : decode cX10_mayBorrow 0 = .ok (.aload_n 0, 1) := by decide +kernel
theorem dX10_mayBorrow_1 : decode cX10_mayBorrow 1 = .ok (.iload_n 1, 1) := by decide +kernel
theorem dX10_mayBorrow_2 : decode cX10_mayBorrow 2 = .ok (.invokevirtual 185, 3) := by decide +kernel
theorem dX10_mayBorrow_5 : decode cX10_mayBorrow 5 = .ok (.ifCond .ne 34, 3) := by decide +kernel
theorem dX10_mayBorrow_8 : decode cX10_mayBorrow 8 = .ok (.aload_n 0, 1) := by decide +kernel
theorem dX10_mayBorrow_9 : decode cX10_mayBorrow 9 = .ok (.getfield 16, 3) := by decide +kernel
theorem dX10_mayBorrow_12 : decode cX10_mayBorrow 12 = .ok (.bipush 52, 2) := by decide +kernel
theorem dX10_mayBorrow_14 : decode cX10_mayBorrow 14 = .ok (.iaload, 1) := by decide +kernel
theorem dX10_mayBorrow_15 : decode cX10_mayBorrow 15 = .ok (.iload_n 2, 1) := by decide +kernel
theorem dX10_mayBorrow_16 : decode cX10_mayBorrow 16 = .ok (.invokestatic 142, 3) := by decide +kernel
theorem dX10_mayBorrow_19 : decode cX10_mayBorrow 19 = .ok (.ifCond .ne 20, 3) := by decide +kernel
theorem dX10_mayBorrow_22 : decode cX10_mayBorrow 22 = .ok (.aload_n 0, 1) := by decide +kernel
theorem dX10_mayBorrow_23 : decode cX10_mayBorrow 23 = .ok (.getfield 16, 3) := by decide +kernel
theorem dX10_mayBorrow_26 : decode cX10_mayBorrow 26 = .ok (.bipush 32, 2) := by decide +kernel
theorem dX10_mayBorrow_28 : decode cX10_mayBorrow 28 = .ok (.iload_n 2, 1) := by decide +kernel
theorem dX10_mayBorrow_29 : decode cX10_mayBorrow 29 = .ok (.iadd, 1) := by decide +kernel
theorem dX10_mayBorrow_30 : decode cX10_mayBorrow 30 = .ok (.iaload, 1) := by decide +kernel
theorem dX10_mayBorrow_31 : decode cX10_mayBorrow 31 = .ok (.iload_n 3, 1) := by decide +kernel
theorem dX10_mayBorrow_32 : decode cX10_mayBorrow 32 = .ok (.if_icmp .lt 7, 3) := by decide +kernel
theorem dX10_mayBorrow_35 : decode cX10_mayBorrow 35 = .ok (.iconst 1, 1) := by decide +kernel
theorem dX10_mayBorrow_36 : decode cX10_mayBorrow 36 = .ok (.goto 4, 3) := by decide +kernel
theorem dX10_mayBorrow_39 : decode cX10_mayBorrow 39 = .ok (.iconst 0, 1) := by decide +kernel
theorem dX10_mayBorrow_40 : decode cX10_mayBorrow 40 = .ok (.ireturn, 1) := by decide +kernel
theorem dX10_borrows_0 : decode cX10_borrows 0 = .ok (.aload_n 0, 1) := by decide +kernel
theorem dX10_borrows_1 : decode cX10_borrows 1 = .ok (.getfield 16, 3) := by decide +kernel
theorem dX10_borrows_4 : decode cX10_borrows 4 = .ok (.iconst 0, 1) := by decide +kernel
theorem dX10_borrows_5 : decode cX10_borrows 5 = .ok (.iconst 4, 1) := by decide +kernel
theorem dX10_borrows_6 : decode cX10_borrows 6 = .ok (.iload_n 1, 1) := by decide +kernel
theorem dX10_borrows_7 : decode cX10_borrows 7 = .ok (.imul, 1) := by decide +kernel
theorem dX10_borrows_8 : decode cX10_borrows 8 = .ok (.iadd, 1) := by decide +kernel
theorem dX10_borrows_9 : decode cX10_borrows 9 = .ok (.iload_n 2, 1) := by decide +kernel
theorem dX10_borrows_10 : decode cX10_borrows 10 = .ok (.iadd, 1) := by decide +kernel
theorem dX10_borrows_11 : decode cX10_borrows 11 = .ok (.aload_n 0, 1) := by decide +kernel
theorem dX10_borrows_12 : decode cX10_borrows 12 = .ok (.getfield 16, 3) := by decide +kernel
theorem dX10_borrows_15 : decode cX10_borrows 15 = .ok (.iconst 0, 1) := by decide +kernel
theorem dX10_borrows_16 : decode cX10_borrows 16 = .ok (.iconst 4, 1) := by decide +kernel
theorem dX10_borrows_17 : decode cX10_borrows 17 = .ok (.iload_n 1, 1) := by decide +kernel
theorem dX10_borrows_18 : decode cX10_borrows 18 = .ok (.imul, 1) := by decide +kernel
theorem dX10_borrows_19 : decode cX10_borrows 19 = .ok (.iadd, 1) := by decide +kernel
theorem dX10_borrows_20 : decode cX10_borrows 20 = .ok (.iload_n 2, 1) := by decide +kernel
theorem dX10_borrows_21 : decode cX10_borrows 21 = .ok (.iadd, 1) := by decide +kernel
theorem dX10_borrows_22 : decode cX10_borrows 22 = .ok (.iaload, 1) := by decide +kernel
theorem dX10_borrows_23 : decode cX10_borrows 23 = .ok (.iload_n 3, 1) := by decide +kernel
theorem dX10_borrows_24 : decode cX10_borrows 24 = .ok (.iadd, 1) := by decide +kernel
theorem dX10_borrows_25 : decode cX10_borrows 25 = .ok (.sipush 9999, 3) := by decide +kernel
theorem dX10_borrows_28 : decode cX10_borrows 28 = .ok (.invokestatic 150, 3) := by decide +kernel
theorem dX10_borrows_31 : decode cX10_borrows 31 = .ok (.iastore, 1) := by decide +kernel
theorem dX10_borrows_32 : decode cX10_borrows 32 = .ok (.aload_n 0, 1) := by decide +kernel
theorem dX10_borrows_33 : decode cX10_borrows 33 = .ok (.getfield 16, 3) := by decide +kernel
theorem dX10_borrows_36 : decode cX10_borrows 36 = .ok (.bipush 32, 2) := by decide +kernel
theorem dX10_borrows_38 : decode cX10_borrows 38 = .ok (.iload_n 2, 1) := by decide +kernel
theorem dX10_borrows_39 : decode cX10_borrows 39 = .ok (.iadd, 1) := by decide +kernel
theorem dX10_borrows_40 : decode cX10_borrows 40 = .ok (.dup2, 1) := by decide +kernel
theorem dX10_borrows_41 : decode cX10_borrows 41 = .ok (.iaload, 1) := by decide +kernel
theorem dX10_borrows_42 : decode cX10_borrows 42 = .ok (.iload_n 3, 1) := by decide +kernel
theorem dX10_borrows_43 : decode cX10_borrows 43 = .ok (.isub, 1) := by decide +kernel
theorem dX10_borrows_44 : decode cX10_borrows 44 = .ok (.iastore, 1) := by decide +kernel
theorem dX10_borrows_45 : decode cX10_borrows 45 = .ok (.return_, 1) := by decide +kernel
theorem dX10_borrow_0 : decode cX10_borrow 0 = .ok (.aload_n 0, 1) := by decide +kernel
theorem dX10_borrow_1 : decode cX10_borrow 1 = .ok (.iload_n 1, 1) := by decide +kernel
theorem dX10_borrow_2 : decode cX10_borrow 2 = .ok (.invokevirtual 139, 3) := by decide +kernel
theorem dX10_borrow_5 : decode cX10_borrow 5 = .ok (.ifCond .eq 11, 3) := by decide +kernel
theorem dX10_borrow_8 : decode cX10_borrow 8 = .ok (.aload_n 0, 1) := by decide +kernel
theorem dX10_borrow_9 : decode cX10_borrow 9 = .ok (.iload_n 2, 1) := by decide +kernel
theorem dX10_borrow_10 : decode cX10_borrow 10 = .ok (.invokevirtual 172, 3) := by decide +kernel
theorem dX10_borrow_13 : decode cX10_borrow 13 = .ok (.ifCond .ne 6, 3) := by decide +kernel
theorem dX10_borrow_16 : decode cX10_borrow 16 = .ok (.ldc 175, 2) := by decide +kernel
theorem dX10_borrow_18 : decode cX10_borrow 18 = .ok (.ireturn, 1) := by decide +kernel
theorem dX10_borrow_19 : decode cX10_borrow 19 = .ok (.iload_n 3, 1) := by decide +kernel
theorem dX10_borrow_20 : decode cX10_borrow 20 = .ok (.i2l, 1) := by decide +kernel
theorem dX10_borrow_21 : decode cX10_borrow 21 = .ok (.lconst 1, 1) := by decide +kernel
theorem dX10_borrow_22 : decode cX10_borrow 22 = .ok (.ldc2_w 188, 3) := by decide +kernel
theorem dX10_borrow_25 : decode cX10_borrow 25 = .ok (.invokestatic 65, 3) := by decide +kernel
theorem dX10_borrow_28 : decode cX10_borrow 28 = .ok (.ifCond .ne 6, 3) := by decide +kernel
theorem dX10_borrow_31 : decode cX10_borrow 31 = .ok (.ldc 80, 2) := by decide +kernel
theorem dX10_borrow_33 : decode cX10_borrow 33 = .ok (.ireturn, 1) := by decide +kernel
theorem dX10_borrow_34 : decode cX10_borrow 34 = .ok (.aload_n 0, 1) := by decide +kernel
theorem dX10_borrow_35 : decode cX10_borrow 35 = .ok (.iload_n 1, 1) := by decide +kernel
theorem dX10_borrow_36 : decode cX10_borrow 36 = .ok (.iload_n 2, 1) := by decide +kernel
theorem dX10_borrow_37 : decode cX10_borrow 37 = .ok (.iload_n 3, 1) := by decide +kernel
theorem dX10_borrow_38 : decode cX10_borrow 38 = .ok (.invokevirtual 190, 3) := by decide +kernel
theorem dX10_borrow_41 : decode cX10_borrow 41 = .ok (.ifCond .ne 6, 3) := by decide +kernel
theorem dX10_borrow_44 : decode cX10_borrow 44 = .ok (.ldc 193, 2) := by decide +kernel
theorem dX10_borrow_46 : decode cX10_borrow 46 = .ok (.ireturn, 1) := by decide +kernel
theorem dX10_borrow_47 : decode cX10_borrow 47 = .ok (.aload_n 0, 1) := by decide +kernel
theorem dX10_borrow_48 : decode cX10_borrow 48 = .ok (.invokevirtual 194, 3) := by decide +kernel
theorem dX10_borrow_51 : decode cX10_borrow 51 = .ok (.aload_n 0, 1) := by decide +kernel
theorem dX10_borrow_52 : decode cX10_borrow 52 = .ok (.iload_n 1, 1) := by decide +kernel
theorem dX10_borrow_53 : decode cX10_borrow 53 = .ok (.iload_n 2, 1) := by decide +kernel
theorem dX10_borrow_54 : decode cX10_borrow 54 = .ok (.iload_n 3, 1) := by decide +kernel
theorem dX10_borrow_55 : decode cX10_borrow 55 = .ok (.invokevirtual 197, 3) := by decide +kernel
theorem dX10_borrow_58 : decode cX10_borrow 58 = .ok (.aload_n 0, 1) := by decide +kernel
theorem dX10_borrow_59 : decode cX10_borrow 59 = .ok (.getfield 16, 3) := by decide +kernel
theorem dX10_borrow_62 : decode cX10_borrow 62 = .ok (.iconst 0, 1) := by decide +kernel
theorem dX10_borrow_63 : decode cX10_borrow 63 = .ok (.iconst 4, 1) := by decide +kernel
theorem dX10_borrow_64 : decode cX10_borrow 64 = .ok (.iload_n 1, 1) := by decide +kernel
theorem dX10_borrow_65 : decode cX10_borrow 65 = .ok (.imul, 1) := by decide +kernel
theorem dX10_borrow_66 : decode cX10_borrow 66 = .ok (.iadd, 1) := by decide +kernel
theorem dX10_borrow_67 : decode cX10_borrow 67 = .ok (.iload_n 2, 1) := by decide +kernel
theorem dX10_borrow_68 : decode cX10_borrow 68 = .ok (.iadd, 1) := by decide +kernel
theorem dX10_borrow_69 : decode cX10_borrow 69 = .ok (.iaload, 1) := by decide +kernel
theorem dX10_borrow_70 : decode cX10_borrow 70 = .ok (.ireturn, 1) := by decide +kernel
theorem dX10_pay_0 : decode cX10_pay 0 = .ok (.aload_n 0, 1) := by decide +kernel
theorem dX10_pay_1 : decode cX10_pay 1 = .ok (.iload_n 1, 1) := by decide +kernel
theorem dX10_pay_2 : decode cX10_pay 2 = .ok (.invokevirtual 139, 3) := by decide +kernel
theorem dX10_pay_5 : decode cX10_pay 5 = .ok (.ifCond .eq 11, 3) := by decide +kernel
theorem dX10_pay_8 : decode cX10_pay 8 = .ok (.aload_n 0, 1) := by decide +kernel
theorem dX10_pay_9 : decode cX10_pay 9 = .ok (.iload_n 2, 1) := by decide +kernel
theorem dX10_pay_10 : decode cX10_pay 10 = .ok (.invokevirtual 172, 3) := by decide +kernel
theorem dX10_pay_13 : decode cX10_pay 13 = .ok (.ifCond .ne 6, 3) := by decide +kernel
theorem dX10_pay_16 : decode cX10_pay 16 = .ok (.ldc 175, 2) := by decide +kernel
theorem dX10_pay_18 : decode cX10_pay 18 = .ok (.ireturn, 1) := by decide +kernel
theorem dX10_pay_19 : decode cX10_pay 19 = .ok (.iload_n 3, 1) := by decide +kernel
theorem dX10_pay_20 : decode cX10_pay 20 = .ok (.i2l, 1) := by decide +kernel
theorem dX10_pay_21 : decode cX10_pay 21 = .ok (.lconst 1, 1) := by decide +kernel
theorem dX10_pay_22 : decode cX10_pay 22 = .ok (.ldc2_w 201, 3) := by decide +kernel
theorem dX10_pay_25 : decode cX10_pay 25 = .ok (.invokestatic 65, 3) := by decide +kernel
theorem dX10_pay_28 : decode cX10_pay 28 = .ok (.ifCond .ne 6, 3) := by decide +kernel
theorem dX10_pay_31 : decode cX10_pay 31 = .ok (.ldc 80, 2) := by decide +kernel
theorem dX10_pay_33 : decode cX10_pay 33 = .ok (.ireturn, 1) := by decide +kernel
theorem dX10_pay_34 : decode cX10_pay 34 = .ok (.aload_n 0, 1) := by decide +kernel
theorem dX10_pay_35 : decode cX10_pay 35 = .ok (.getfield 16, 3) := by decide +kernel
theorem dX10_pay_38 : decode cX10_pay 38 = .ok (.iconst 0, 1) := by decide +kernel
theorem dX10_pay_39 : decode cX10_pay 39 = .ok (.iconst 4, 1) := by decide +kernel
theorem dX10_pay_40 : decode cX10_pay 40 = .ok (.iload_n 1, 1) := by decide +kernel
theorem dX10_pay_41 : decode cX10_pay 41 = .ok (.imul, 1) := by decide +kernel
theorem dX10_pay_42 : decode cX10_pay 42 = .ok (.iadd, 1) := by decide +kernel
theorem dX10_pay_43 : decode cX10_pay 43 = .ok (.iload_n 2, 1) := by decide +kernel
theorem dX10_pay_44 : decode cX10_pay 44 = .ok (.iadd, 1) := by decide +kernel
theorem dX10_pay_45 : decode cX10_pay 45 = .ok (.iaload, 1) := by decide +kernel
theorem dX10_pay_46 : decode cX10_pay 46 = .ok (.istore 4, 2) := by decide +kernel
theorem dX10_pay_48 : decode cX10_pay 48 = .ok (.iload 4, 2) := by decide +kernel
theorem dX10_pay_50 : decode cX10_pay 50 = .ok (.iload_n 3, 1) := by decide +kernel
theorem dX10_pay_51 : decode cX10_pay 51 = .ok (.if_icmp .ge 6, 3) := by decide +kernel
theorem dX10_pay_54 : decode cX10_pay 54 = .ok (.ldc 193, 2) := by decide +kernel
theorem dX10_pay_56 : decode cX10_pay 56 = .ok (.ireturn, 1) := by decide +kernel
theorem dX10_pay_57 : decode cX10_pay 57 = .ok (.aload_n 0, 1) := by decide +kernel
theorem dX10_pay_58 : decode cX10_pay 58 = .ok (.invokevirtual 194, 3) := by decide +kernel
theorem dX10_pay_61 : decode cX10_pay 61 = .ok (.aload_n 0, 1) := by decide +kernel
theorem dX10_pay_62 : decode cX10_pay 62 = .ok (.getfield 16, 3) := by decide +kernel
theorem dX10_pay_65 : decode cX10_pay 65 = .ok (.bipush 36, 2) := by decide +kernel
theorem dX10_pay_67 : decode cX10_pay 67 = .ok (.iload_n 1, 1) := by decide +kernel
theorem dX10_pay_68 : decode cX10_pay 68 = .ok (.iadd, 1) := by decide +kernel
theorem dX10_pay_69 : decode cX10_pay 69 = .ok (.dup2, 1) := by decide +kernel
theorem dX10_pay_70 : decode cX10_pay 70 = .ok (.iaload, 1) := by decide +kernel
theorem dX10_pay_71 : decode cX10_pay 71 = .ok (.iload_n 3, 1) := by decide +kernel
theorem dX10_pay_72 : decode cX10_pay 72 = .ok (.bipush 100, 2) := by decide +kernel
theorem dX10_pay_74 : decode cX10_pay 74 = .ok (.imul, 1) := by decide +kernel
theorem dX10_pay_75 : decode cX10_pay 75 = .ok (.aload_n 0, 1) := by decide +kernel
theorem dX10_pay_76 : decode cX10_pay 76 = .ok (.getfield 7, 3) := by decide +kernel
theorem dX10_pay_79 : decode cX10_pay 79 = .ok (.iconst 2, 1) := by decide +kernel
theorem dX10_pay_80 : decode cX10_pay 80 = .ok (.iaload, 1) := by decide +kernel
theorem dX10_pay_81 : decode cX10_pay 81 = .ok (.iload 4, 2) := by decide +kernel
theorem dX10_pay_83 : decode cX10_pay 83 = .ok (.imul, 1) := by decide +kernel
theorem dX10_pay_84 : decode cX10_pay 84 = .ok (.if_icmp .le 9, 3) := by decide +kernel
theorem dX10_pay_87 : decode cX10_pay 87 = .ok (.iconst 1, 1) := by decide +kernel
theorem dX10_pay_88 : decode cX10_pay 88 = .ok (.iload_n 2, 1) := by decide +kernel
theorem dX10_pay_89 : decode cX10_pay 89 = .ok (.ishl, 1) := by decide +kernel
theorem dX10_pay_90 : decode cX10_pay 90 = .ok (.goto 4, 3) := by decide +kernel
theorem dX10_pay_93 : decode cX10_pay 93 = .ok (.iconst 0, 1) := by decide +kernel
theorem dX10_pay_94 : decode cX10_pay 94 = .ok (.ior, 1) := by decide +kernel
theorem dX10_pay_95 : decode cX10_pay 95 = .ok (.iastore, 1) := by decide +kernel
theorem dX10_pay_96 : decode cX10_pay 96 = .ok (.aload_n 0, 1) := by decide +kernel
theorem dX10_pay_97 : decode cX10_pay 97 = .ok (.getfield 16, 3) := by decide +kernel
theorem dX10_pay_100 : decode cX10_pay 100 = .ok (.iconst 0, 1) := by decide +kernel
theorem dX10_pay_101 : decode cX10_pay 101 = .ok (.iconst 4, 1) := by decide +kernel
theorem dX10_pay_102 : decode cX10_pay 102 = .ok (.iload_n 1, 1) := by decide +kernel
theorem dX10_pay_103 : decode cX10_pay 103 = .ok (.imul, 1) := by decide +kernel
theorem dX10_pay_104 : decode cX10_pay 104 = .ok (.iadd, 1) := by decide +kernel
theorem dX10_pay_105 : decode cX10_pay 105 = .ok (.iload_n 2, 1) := by decide +kernel
theorem dX10_pay_106 : decode cX10_pay 106 = .ok (.iadd, 1) := by decide +kernel
theorem dX10_pay_107 : decode cX10_pay 107 = .ok (.iload 4, 2) := by decide +kernel
theorem dX10_pay_109 : decode cX10_pay 109 = .ok (.iload_n 3, 1) := by decide +kernel
theorem dX10_pay_110 : decode cX10_pay 110 = .ok (.isub, 1) := by decide +kernel
theorem dX10_pay_111 : decode cX10_pay 111 = .ok (.iastore, 1) := by decide +kernel
theorem dX10_pay_112 : decode cX10_pay 112 = .ok (.aload_n 0, 1) := by decide +kernel
theorem dX10_pay_113 : decode cX10_pay 113 = .ok (.getfield 16, 3) := by decide +kernel
theorem dX10_pay_116 : decode cX10_pay 116 = .ok (.bipush 32, 2) := by decide +kernel
theorem dX10_pay_118 : decode cX10_pay 118 = .ok (.iload_n 2, 1) := by decide +kernel
theorem dX10_pay_119 : decode cX10_pay 119 = .ok (.iadd, 1) := by decide +kernel
theorem dX10_pay_120 : decode cX10_pay 120 = .ok (.aload_n 0, 1) := by decide +kernel
theorem dX10_pay_121 : decode cX10_pay 121 = .ok (.getfield 16, 3) := by decide +kernel
theorem dX10_pay_124 : decode cX10_pay 124 = .ok (.bipush 32, 2) := by decide +kernel
theorem dX10_pay_126 : decode cX10_pay 126 = .ok (.iload_n 2, 1) := by decide +kernel
theorem dX10_pay_127 : decode cX10_pay 127 = .ok (.iadd, 1) := by decide +kernel
theorem dX10_pay_128 : decode cX10_pay 128 = .ok (.iaload, 1) := by decide +kernel
theorem dX10_pay_129 : decode cX10_pay 129 = .ok (.iload_n 3, 1) := by decide +kernel
theorem dX10_pay_130 : decode cX10_pay 130 = .ok (.iadd, 1) := by decide +kernel
theorem dX10_pay_131 : decode cX10_pay 131 = .ok (.sipush 9999, 3) := by decide +kernel
theorem dX10_pay_134 : decode cX10_pay 134 = .ok (.invokestatic 150, 3) := by decide +kernel
theorem dX10_pay_137 : decode cX10_pay 137 = .ok (.iastore, 1) := by decide +kernel
theorem dX10_pay_138 : decode cX10_pay 138 = .ok (.iload 4, 2) := by decide +kernel
theorem dX10_pay_140 : decode cX10_pay 140 = .ok (.iload_n 3, 1) := by decide +kernel
theorem dX10_pay_141 : decode cX10_pay 141 = .ok (.isub, 1) := by decide +kernel
theorem dX10_pay_142 : decode cX10_pay 142 = .ok (.ireturn, 1) := by decide +kernel
theorem dX10_refuses_0 : decode cX10_refuses 0 = .ok (.iload_n 1, 1) := by decide +kernel
theorem dX10_refuses_1 : decode cX10_refuses 1 = .ok (.i2l, 1) := by decide +kernel
theorem dX10_refuses_2 : decode cX10_refuses 2 = .ok (.lconst 1, 1) := by decide +kernel
theorem dX10_refuses_3 : decode cX10_refuses 3 = .ok (.ldc2_w 203, 3) := by decide +kernel
theorem dX10_refuses_6 : decode cX10_refuses 6 = .ok (.invokestatic 65, 3) := by decide +kernel
theorem dX10_refuses_9 : decode cX10_refuses 9 = .ok (.ifCond .ne 6, 3) := by decide +kernel
theorem dX10_refuses_12 : decode cX10_refuses 12 = .ok (.ldc 80, 2) := by decide +kernel
theorem dX10_refuses_14 : decode cX10_refuses 14 = .ok (.ireturn, 1) := by decide +kernel
theorem dX10_refuses_15 : decode cX10_refuses 15 = .ok (.aload_n 0, 1) := by decide +kernel
theorem dX10_refuses_16 : decode cX10_refuses 16 = .ok (.getfield 7, 3) := by decide +kernel
theorem dX10_refuses_19 : decode cX10_refuses 19 = .ok (.iconst 0, 1) := by decide +kernel
theorem dX10_refuses_20 : decode cX10_refuses 20 = .ok (.iaload, 1) := by decide +kernel
theorem dX10_refuses_21 : decode cX10_refuses 21 = .ok (.ifCond .ne 8, 3) := by decide +kernel
theorem dX10_refuses_24 : decode cX10_refuses 24 = .ok (.ldc 193, 2) := by decide +kernel
theorem dX10_refuses_26 : decode cX10_refuses 26 = .ok (.goto 22, 3) := by decide +kernel
theorem dX10_refuses_29 : decode cX10_refuses 29 = .ok (.aload_n 0, 1) := by decide +kernel
theorem dX10_refuses_30 : decode cX10_refuses 30 = .ok (.getfield 16, 3) := by decide +kernel
theorem dX10_refuses_33 : decode cX10_refuses 33 = .ok (.bipush 53, 2) := by decide +kernel
theorem dX10_refuses_35 : decode cX10_refuses 35 = .ok (.iaload, 1) := by decide +kernel
theorem dX10_refuses_36 : decode cX10_refuses 36 = .ok (.sipush 9000, 3) := by decide +kernel
theorem dX10_refuses_39 : decode cX10_refuses 39 = .ok (.if_icmp .le 8, 3) := by decide +kernel
theorem dX10_refuses_42 : decode cX10_refuses 42 = .ok (.ldc 84, 2) := by decide +kernel
theorem dX10_refuses_44 : decode cX10_refuses 44 = .ok (.goto 4, 3) := by decide +kernel
theorem dX10_refuses_47 : decode cX10_refuses 47 = .ok (.iconst 0, 1) := by decide +kernel
theorem dX10_refuses_48 : decode cX10_refuses 48 = .ok (.ireturn, 1) := by decide +kernel
theorem dX10_quarter_0 : decode cX10_quarter 0 = .ok (.aload_n 0, 1) := by decide +kernel
theorem dX10_quarter_1 : decode cX10_quarter 1 = .ok (.iload_n 1, 1) := by decide +kernel
theorem dX10_quarter_2 : decode cX10_quarter 2 = .ok (.invokevirtual 205, 3) := by decide +kernel
theorem dX10_quarter_5 : decode cX10_quarter 5 = .ok (.istore_n 2, 1) := by decide +kernel
theorem dX10_quarter_6 : decode cX10_quarter 6 = .ok (.iload_n 2, 1) := by decide +kernel
theorem dX10_quarter_7 : decode cX10_quarter 7 = .ok (.ifCond .eq 5, 3) := by decide +kernel
theorem dX10_quarter_10 : decode cX10_quarter 10 = .ok (.iload_n 2, 1) := by decide +kernel
theorem dX10_quarter_11 : decode cX10_quarter 11 = .ok (.ireturn, 1) := by decide +kernel
theorem dX10_quarter_12 : decode cX10_quarter 12 = .ok (.aload_n 0, 1) := by decide +kernel
theorem dX10_quarter_13 : decode cX10_quarter 13 = .ok (.getfield 16, 3) := by decide +kernel
theorem dX10_quarter_16 : decode cX10_quarter 16 = .ok (.bipush 52, 2) := by decide +kernel
theorem dX10_quarter_18 : decode cX10_quarter 18 = .ok (.iaload, 1) := by decide +kernel
theorem dX10_quarter_19 : decode cX10_quarter 19 = .ok (.istore_n 3, 1) := by decide +kernel
theorem dX10_quarter_20 : decode cX10_quarter 20 = .ok (.iconst 0, 1) := by decide +kernel
theorem dX10_quarter_21 : decode cX10_quarter 21 = .ok (.istore 4, 2) := by decide +kernel
theorem dX10_quarter_23 : decode cX10_quarter 23 = .ok (.iload 4, 2) := by decide +kernel
theorem dX10_quarter_25 : decode cX10_quarter 25 = .ok (.iload_n 1, 1) := by decide +kernel
theorem dX10_quarter_26 : decode cX10_quarter 26 = .ok (.if_icmp .ge 21, 3) := by decide +kernel
theorem dX10_quarter_29 : decode cX10_quarter 29 = .ok (.aload_n 0, 1) := by decide +kernel
theorem dX10_quarter_30 : decode cX10_quarter 30 = .ok (.invokevirtual 194, 3) := by decide +kernel
theorem dX10_quarter_33 : decode cX10_quarter 33 = .ok (.aload_n 0, 1) := by decide +kernel
theorem dX10_quarter_34 : decode cX10_quarter 34 = .ok (.aload_n 0, 1) := by decide +kernel
theorem dX10_quarter_35 : decode cX10_quarter 35 = .ok (.getfield 16, 3) := by decide +kernel
theorem dX10_quarter_38 : decode cX10_quarter 38 = .ok (.invokevirtual 208, 3) := by decide +kernel
theorem dX10_quarter_41 : decode cX10_quarter 41 = .ok (.iinc 4 1, 3) := by decide +kernel
theorem dX10_quarter_44 : decode cX10_quarter 44 = .ok (.goto (-21), 3) := by decide +kernel
theorem dX10_quarter_47 : decode cX10_quarter 47 = .ok (.aload_n 0, 1) := by decide +kernel
theorem dX10_quarter_48 : decode cX10_quarter 48 = .ok (.getfield 16, 3) := by decide +kernel
theorem dX10_quarter_51 : decode cX10_quarter 51 = .ok (.bipush 52, 2) := by decide +kernel
theorem dX10_quarter_53 : decode cX10_quarter 53 = .ok (.iaload, 1) := by decide +kernel
theorem dX10_quarter_54 : decode cX10_quarter 54 = .ok (.iload_n 3, 1) := by decide +kernel
theorem dX10_quarter_55 : decode cX10_quarter 55 = .ok (.iconst (-1), 1) := by decide +kernel
theorem dX10_quarter_56 : decode cX10_quarter 56 = .ok (.ixor, 1) := by decide +kernel
theorem dX10_quarter_57 : decode cX10_quarter 57 = .ok (.iand, 1) := by decide +kernel
theorem dX10_quarter_58 : decode cX10_quarter 58 = .ok (.invokestatic 212, 3) := by decide +kernel
theorem dX10_quarter_61 : decode cX10_quarter 61 = .ok (.ireturn, 1) := by decide +kernel
theorem dX10_areApart_0 : decode cX10_areApart 0 = .ok (.aload_n 0, 1) := by decide +kernel
theorem dX10_areApart_1 : decode cX10_areApart 1 = .ok (.getfield 16, 3) := by decide +kernel
theorem dX10_areApart_4 : decode cX10_areApart 4 = .ok (.bipush 44, 2) := by decide +kernel
theorem dX10_areApart_6 : decode cX10_areApart 6 = .ok (.iload_n 1, 1) := by decide +kernel
theorem dX10_areApart_7 : decode cX10_areApart 7 = .ok (.iadd, 1) := by decide +kernel
theorem dX10_areApart_8 : decode cX10_areApart 8 = .ok (.iaload, 1) := by decide +kernel
theorem dX10_areApart_9 : decode cX10_areApart 9 = .ok (.iconst (-1), 1) := by decide +kernel
theorem dX10_areApart_10 : decode cX10_areApart 10 = .ok (.if_icmp .ne 20, 3) := by decide +kernel
theorem dX10_areApart_13 : decode cX10_areApart 13 = .ok (.aload_n 0, 1) := by decide +kernel
theorem dX10_areApart_14 : decode cX10_areApart 14 = .ok (.getfield 16, 3) := by decide +kernel
theorem dX10_areApart_17 : decode cX10_areApart 17 = .ok (.bipush 44, 2) := by decide +kernel
theorem dX10_areApart_19 : decode cX10_areApart 19 = .ok (.iload_n 2, 1) := by decide +kernel
theorem dX10_areApart_20 : decode cX10_areApart 20 = .ok (.iadd, 1) := by decide +kernel
theorem dX10_areApart_21 : decode cX10_areApart 21 = .ok (.iaload, 1) := by decide +kernel
theorem dX10_areApart_22 : decode cX10_areApart 22 = .ok (.iconst (-1), 1) := by decide +kernel
theorem dX10_areApart_23 : decode cX10_areApart 23 = .ok (.if_icmp .ne 7, 3) := by decide +kernel
theorem dX10_areApart_26 : decode cX10_areApart 26 = .ok (.iconst 1, 1) := by decide +kernel
theorem dX10_areApart_27 : decode cX10_areApart 27 = .ok (.goto 4, 3) := by decide +kernel
theorem dX10_areApart_30 : decode cX10_areApart 30 = .ok (.iconst 0, 1) := by decide +kernel
theorem dX10_areApart_31 : decode cX10_areApart 31 = .ok (.ireturn, 1) := by decide +kernel
theorem dX10_wed_0 : decode cX10_wed 0 = .ok (.aload_n 0, 1) := by decide +kernel
theorem dX10_wed_1 : decode cX10_wed 1 = .ok (.iload_n 1, 1) := by decide +kernel
theorem dX10_wed_2 : decode cX10_wed 2 = .ok (.invokevirtual 215, 3) := by decide +kernel
theorem dX10_wed_5 : decode cX10_wed 5 = .ok (.ifCond .eq 11, 3) := by decide +kernel
theorem dX10_wed_8 : decode cX10_wed 8 = .ok (.aload_n 0, 1) := by decide +kernel
theorem dX10_wed_9 : decode cX10_wed 9 = .ok (.iload_n 2, 1) := by decide +kernel
theorem dX10_wed_10 : decode cX10_wed 10 = .ok (.invokevirtual 182, 3) := by decide +kernel
theorem dX10_wed_13 : decode cX10_wed 13 = .ok (.ifCond .ne 6, 3) := by decide +kernel
theorem dX10_wed_16 : decode cX10_wed 16 = .ok (.ldc 175, 2) := by decide +kernel
theorem dX10_wed_18 : decode cX10_wed 18 = .ok (.ireturn, 1) := by decide +kernel
theorem dX10_wed_19 : decode cX10_wed 19 = .ok (.aload_n 0, 1) := by decide +kernel
theorem dX10_wed_20 : decode cX10_wed 20 = .ok (.iload_n 1, 1) := by decide +kernel
theorem dX10_wed_21 : decode cX10_wed 21 = .ok (.iload_n 2, 1) := by decide +kernel
theorem dX10_wed_22 : decode cX10_wed 22 = .ok (.invokevirtual 218, 3) := by decide +kernel
theorem dX10_wed_25 : decode cX10_wed 25 = .ok (.ifCond .ne 6, 3) := by decide +kernel
theorem dX10_wed_28 : decode cX10_wed 28 = .ok (.ldc 193, 2) := by decide +kernel
theorem dX10_wed_30 : decode cX10_wed 30 = .ok (.ireturn, 1) := by decide +kernel
theorem dX10_wed_31 : decode cX10_wed 31 = .ok (.aload_n 0, 1) := by decide +kernel
theorem dX10_wed_32 : decode cX10_wed 32 = .ok (.invokevirtual 194, 3) := by decide +kernel
theorem dX10_wed_35 : decode cX10_wed 35 = .ok (.aload_n 0, 1) := by decide +kernel
theorem dX10_wed_36 : decode cX10_wed 36 = .ok (.aload_n 0, 1) := by decide +kernel
theorem dX10_wed_37 : decode cX10_wed 37 = .ok (.getfield 16, 3) := by decide +kernel
theorem dX10_wed_40 : decode cX10_wed 40 = .ok (.iload_n 1, 1) := by decide +kernel
theorem dX10_wed_41 : decode cX10_wed 41 = .ok (.iload_n 2, 1) := by decide +kernel
theorem dX10_wed_42 : decode cX10_wed 42 = .ok (.invokevirtual 221, 3) := by decide +kernel
theorem dX10_wed_45 : decode cX10_wed 45 = .ok (.aload_n 0, 1) := by decide +kernel
theorem dX10_wed_46 : decode cX10_wed 46 = .ok (.aload_n 0, 1) := by decide +kernel
theorem dX10_wed_47 : decode cX10_wed 47 = .ok (.getfield 16, 3) := by decide +kernel
theorem dX10_wed_50 : decode cX10_wed 50 = .ok (.iload_n 1, 1) := by decide +kernel
theorem dX10_wed_51 : decode cX10_wed 51 = .ok (.invokevirtual 179, 3) := by decide +kernel
theorem dX10_wed_54 : decode cX10_wed 54 = .ok (.bipush 10, 2) := by decide +kernel
theorem dX10_wed_56 : decode cX10_wed 56 = .ok (.iadd, 1) := by decide +kernel
theorem dX10_wed_57 : decode cX10_wed 57 = .ok (.ireturn, 1) := by decide +kernel
theorem dX10_divorce_0 : decode cX10_divorce 0 = .ok (.aload_n 0, 1) := by decide +kernel
theorem dX10_divorce_1 : decode cX10_divorce 1 = .ok (.iload_n 1, 1) := by decide +kernel
theorem dX10_divorce_2 : decode cX10_divorce 2 = .ok (.invokevirtual 215, 3) := by decide +kernel
theorem dX10_divorce_5 : decode cX10_divorce 5 = .ok (.ifCond .ne 6, 3) := by decide +kernel
theorem dX10_divorce_8 : decode cX10_divorce 8 = .ok (.ldc 175, 2) := by decide +kernel
theorem dX10_divorce_10 : decode cX10_divorce 10 = .ok (.ireturn, 1) := by decide +kernel
theorem dX10_divorce_11 : decode cX10_divorce 11 = .ok (.aload_n 0, 1) := by decide +kernel
theorem dX10_divorce_12 : decode cX10_divorce 12 = .ok (.getfield 16, 3) := by decide +kernel
theorem dX10_divorce_15 : decode cX10_divorce 15 = .ok (.bipush 44, 2) := by decide +kernel
theorem dX10_divorce_17 : decode cX10_divorce 17 = .ok (.iload_n 1, 1) := by decide +kernel
theorem dX10_divorce_18 : decode cX10_divorce 18 = .ok (.iadd, 1) := by decide +kernel
theorem dX10_divorce_19 : decode cX10_divorce 19 = .ok (.iaload, 1) := by decide +kernel
theorem dX10_divorce_20 : decode cX10_divorce 20 = .ok (.istore_n 2, 1) := by decide +kernel
theorem dX10_divorce_21 : decode cX10_divorce 21 = .ok (.iload_n 2, 1) := by decide +kernel
theorem dX10_divorce_22 : decode cX10_divorce 22 = .ok (.iconst (-1), 1) := by decide +kernel
theorem dX10_divorce_23 : decode cX10_divorce 23 = .ok (.if_icmp .ne 6, 3) := by decide +kernel
theorem dX10_divorce_26 : decode cX10_divorce 26 = .ok (.ldc 193, 2) := by decide +kernel
theorem dX10_divorce_28 : decode cX10_divorce 28 = .ok (.ireturn, 1) := by decide +kernel
theorem dX10_divorce_29 : decode cX10_divorce 29 = .ok (.aload_n 0, 1) := by decide +kernel
theorem dX10_divorce_30 : decode cX10_divorce 30 = .ok (.invokevirtual 194, 3) := by decide +kernel
theorem dX10_divorce_33 : decode cX10_divorce 33 = .ok (.iconst 0, 1) := by decide +kernel
theorem dX10_divorce_34 : decode cX10_divorce 34 = .ok (.istore_n 3, 1) := by decide +kernel
theorem dX10_divorce_35 : decode cX10_divorce 35 = .ok (.iload_n 3, 1) := by decide +kernel
theorem dX10_divorce_36 : decode cX10_divorce 36 = .ok (.iconst 4, 1) := by decide +kernel
theorem dX10_divorce_37 : decode cX10_divorce 37 = .ok (.if_icmp .ge 56, 3) := by decide +kernel
theorem dX10_divorce_40 : decode cX10_divorce 40 = .ok (.aload_n 0, 1) := by decide +kernel
theorem dX10_divorce_41 : decode cX10_divorce 41 = .ok (.getfield 16, 3) := by decide +kernel
theorem dX10_divorce_44 : decode cX10_divorce 44 = .ok (.iconst 0, 1) := by decide +kernel
theorem dX10_divorce_45 : decode cX10_divorce 45 = .ok (.iconst 4, 1) := by decide +kernel
theorem dX10_divorce_46 : decode cX10_divorce 46 = .ok (.iload_n 1, 1) := by decide +kernel
theorem dX10_divorce_47 : decode cX10_divorce 47 = .ok (.imul, 1) := by decide +kernel
theorem dX10_divorce_48 : decode cX10_divorce 48 = .ok (.iadd, 1) := by decide +kernel
theorem dX10_divorce_49 : decode cX10_divorce 49 = .ok (.iload_n 3, 1) := by decide +kernel
theorem dX10_divorce_50 : decode cX10_divorce 50 = .ok (.iadd, 1) := by decide +kernel
theorem dX10_divorce_51 : decode cX10_divorce 51 = .ok (.iaload, 1) := by decide +kernel
theorem dX10_divorce_52 : decode cX10_divorce 52 = .ok (.iconst 2, 1) := by decide +kernel
theorem dX10_divorce_53 : decode cX10_divorce 53 = .ok (.idiv, 1) := by decide +kernel
theorem dX10_divorce_54 : decode cX10_divorce 54 = .ok (.istore 4, 2) := by decide +kernel
theorem dX10_divorce_56 : decode cX10_divorce 56 = .ok (.aload_n 0, 1) := by decide +kernel
theorem dX10_divorce_57 : decode cX10_divorce 57 = .ok (.getfield 16, 3) := by decide +kernel
theorem dX10_divorce_60 : decode cX10_divorce 60 = .ok (.iconst 0, 1) := by decide +kernel
theorem dX10_divorce_61 : decode cX10_divorce 61 = .ok (.iconst 4, 1) := by decide +kernel
theorem dX10_divorce_62 : decode cX10_divorce 62 = .ok (.iload_n 2, 1) := by decide +kernel
theorem dX10_divorce_63 : decode cX10_divorce 63 = .ok (.imul, 1) := by decide +kernel
theorem dX10_divorce_64 : decode cX10_divorce 64 = .ok (.iadd, 1) := by decide +kernel
theorem dX10_divorce_65 : decode cX10_divorce 65 = .ok (.iload_n 3, 1) := by decide +kernel
theorem dX10_divorce_66 : decode cX10_divorce 66 = .ok (.iadd, 1) := by decide +kernel
theorem dX10_divorce_67 : decode cX10_divorce 67 = .ok (.iload 4, 2) := by decide +kernel
theorem dX10_divorce_69 : decode cX10_divorce 69 = .ok (.iastore, 1) := by decide +kernel
theorem dX10_divorce_70 : decode cX10_divorce 70 = .ok (.aload_n 0, 1) := by decide +kernel
theorem dX10_divorce_71 : decode cX10_divorce 71 = .ok (.getfield 16, 3) := by decide +kernel
theorem dX10_divorce_74 : decode cX10_divorce 74 = .ok (.iconst 0, 1) := by decide +kernel
theorem dX10_divorce_75 : decode cX10_divorce 75 = .ok (.iconst 4, 1) := by decide +kernel
theorem dX10_divorce_76 : decode cX10_divorce 76 = .ok (.iload_n 1, 1) := by decide +kernel
theorem dX10_divorce_77 : decode cX10_divorce 77 = .ok (.imul, 1) := by decide +kernel
theorem dX10_divorce_78 : decode cX10_divorce 78 = .ok (.iadd, 1) := by decide +kernel
theorem dX10_divorce_79 : decode cX10_divorce 79 = .ok (.iload_n 3, 1) := by decide +kernel
theorem dX10_divorce_80 : decode cX10_divorce 80 = .ok (.iadd, 1) := by decide +kernel
theorem dX10_divorce_81 : decode cX10_divorce 81 = .ok (.dup2, 1) := by decide +kernel
theorem dX10_divorce_82 : decode cX10_divorce 82 = .ok (.iaload, 1) := by decide +kernel
theorem dX10_divorce_83 : decode cX10_divorce 83 = .ok (.iload 4, 2) := by decide +kernel
theorem dX10_divorce_85 : decode cX10_divorce 85 = .ok (.isub, 1) := by decide +kernel
theorem dX10_divorce_86 : decode cX10_divorce 86 = .ok (.iastore, 1) := by decide +kernel
theorem dX10_divorce_87 : decode cX10_divorce 87 = .ok (.iinc 3 1, 3) := by decide +kernel
theorem dX10_divorce_90 : decode cX10_divorce 90 = .ok (.goto (-55), 3) := by decide +kernel
theorem dX10_divorce_93 : decode cX10_divorce 93 = .ok (.aload_n 0, 1) := by decide +kernel
theorem dX10_divorce_94 : decode cX10_divorce 94 = .ok (.getfield 16, 3) := by decide +kernel
theorem dX10_divorce_97 : decode cX10_divorce 97 = .ok (.bipush 36, 2) := by decide +kernel
theorem dX10_divorce_99 : decode cX10_divorce 99 = .ok (.iload_n 2, 1) := by decide +kernel
theorem dX10_divorce_100 : decode cX10_divorce 100 = .ok (.iadd, 1) := by decide +kernel
theorem dX10_divorce_101 : decode cX10_divorce 101 = .ok (.aload_n 0, 1) := by decide +kernel
theorem dX10_divorce_102 : decode cX10_divorce 102 = .ok (.getfield 16, 3) := by decide +kernel
theorem dX10_divorce_105 : decode cX10_divorce 105 = .ok (.bipush 36, 2) := by decide +kernel
theorem dX10_divorce_107 : decode cX10_divorce 107 = .ok (.iload_n 1, 1) := by decide +kernel
theorem dX10_divorce_108 : decode cX10_divorce 108 = .ok (.iadd, 1) := by decide +kernel
theorem dX10_divorce_109 : decode cX10_divorce 109 = .ok (.iaload, 1) := by decide +kernel
theorem dX10_divorce_110 : decode cX10_divorce 110 = .ok (.iastore, 1) := by decide +kernel
theorem dX10_divorce_111 : decode cX10_divorce 111 = .ok (.aload_n 0, 1) := by decide +kernel
theorem dX10_divorce_112 : decode cX10_divorce 112 = .ok (.getfield 16, 3) := by decide +kernel
theorem dX10_divorce_115 : decode cX10_divorce 115 = .ok (.bipush 44, 2) := by decide +kernel
theorem dX10_divorce_117 : decode cX10_divorce 117 = .ok (.iload_n 1, 1) := by decide +kernel
theorem dX10_divorce_118 : decode cX10_divorce 118 = .ok (.iadd, 1) := by decide +kernel
theorem dX10_divorce_119 : decode cX10_divorce 119 = .ok (.iconst (-1), 1) := by decide +kernel
theorem dX10_divorce_120 : decode cX10_divorce 120 = .ok (.iastore, 1) := by decide +kernel
theorem dX10_divorce_121 : decode cX10_divorce 121 = .ok (.aload_n 0, 1) := by decide +kernel
theorem dX10_divorce_122 : decode cX10_divorce 122 = .ok (.getfield 16, 3) := by decide +kernel
theorem dX10_divorce_125 : decode cX10_divorce 125 = .ok (.bipush 44, 2) := by decide +kernel
theorem dX10_divorce_127 : decode cX10_divorce 127 = .ok (.iload_n 2, 1) := by decide +kernel
theorem dX10_divorce_128 : decode cX10_divorce 128 = .ok (.iadd, 1) := by decide +kernel
theorem dX10_divorce_129 : decode cX10_divorce 129 = .ok (.iconst (-1), 1) := by decide +kernel
theorem dX10_divorce_130 : decode cX10_divorce 130 = .ok (.iastore, 1) := by decide +kernel
theorem dX10_divorce_131 : decode cX10_divorce 131 = .ok (.aload_n 0, 1) := by decide +kernel
theorem dX10_divorce_132 : decode cX10_divorce 132 = .ok (.aload_n 0, 1) := by decide +kernel
theorem dX10_divorce_133 : decode cX10_divorce 133 = .ok (.getfield 16, 3) := by decide +kernel
theorem dX10_divorce_136 : decode cX10_divorce 136 = .ok (.iload_n 2, 1) := by decide +kernel
theorem dX10_divorce_137 : decode cX10_divorce 137 = .ok (.invokevirtual 162, 3) := by decide +kernel
theorem dX10_divorce_140 : decode cX10_divorce 140 = .ok (.ireturn, 1) := by decide +kernel
theorem dX10_draw_0 : decode cX10_draw 0 = .ok (.aload_n 0, 1) := by decide +kernel
theorem dX10_draw_1 : decode cX10_draw 1 = .ok (.aload_n 0, 1) := by decide +kernel
theorem dX10_draw_2 : decode cX10_draw 2 = .ok (.getfield 225, 3) := by decide +kernel
theorem dX10_draw_5 : decode cX10_draw 5 = .ok (.ldc2_w 229, 3) := by decide +kernel
theorem dX10_draw_8 : decode cX10_draw 8 = .ok (.lmul, 1) := by decide +kernel
theorem dX10_draw_9 : decode cX10_draw 9 = .ok (.ldc2_w 231, 3) := by decide +kernel
theorem dX10_draw_12 : decode cX10_draw 12 = .ok (.ladd, 1) := by decide +kernel
theorem dX10_draw_13 : decode cX10_draw 13 = .ok (.ldc2_w 233, 3) := by decide +kernel
theorem dX10_draw_16 : decode cX10_draw 16 = .ok (.lrem, 1) := by decide +kernel
theorem dX10_draw_17 : decode cX10_draw 17 = .ok (.putfield 225, 3) := by decide +kernel
theorem dX10_draw_20 : decode cX10_draw 20 = .ok (.aload_n 0, 1) := by decide +kernel
theorem dX10_draw_21 : decode cX10_draw 21 = .ok (.getfield 225, 3) := by decide +kernel
theorem dX10_draw_24 : decode cX10_draw 24 = .ok (.ldc2_w 235, 3) := by decide +kernel
theorem dX10_draw_27 : decode cX10_draw 27 = .ok (.ldiv, 1) := by decide +kernel
theorem dX10_draw_28 : decode cX10_draw 28 = .ok (.iload_n 1, 1) := by decide +kernel
theorem dX10_draw_29 : decode cX10_draw 29 = .ok (.i2l, 1) := by decide +kernel
theorem dX10_draw_30 : decode cX10_draw 30 = .ok (.lrem, 1) := by decide +kernel
theorem dX10_draw_31 : decode cX10_draw 31 = .ok (.l2i, 1) := by decide +kernel
theorem dX10_draw_32 : decode cX10_draw 32 = .ok (.ireturn, 1) := by decide +kernel
theorem dX10_drift_0 : decode cX10_drift 0 = .ok (.aload_n 0, 1) := by decide +kernel
theorem dX10_drift_1 : decode cX10_drift 1 = .ok (.iload_n 1, 1) := by decide +kernel
theorem dX10_drift_2 : decode cX10_drift 2 = .ok (.invokevirtual 205, 3) := by decide +kernel
theorem dX10_drift_5 : decode cX10_drift 5 = .ok (.istore_n 2, 1) := by decide +kernel
theorem dX10_drift_6 : decode cX10_drift 6 = .ok (.iload_n 2, 1) := by decide +kernel
theorem dX10_drift_7 : decode cX10_drift 7 = .ok (.ifCond .eq 5, 3) := by decide +kernel
theorem dX10_drift_10 : decode cX10_drift 10 = .ok (.iload_n 2, 1) := by decide +kernel
theorem dX10_drift_11 : decode cX10_drift 11 = .ok (.ireturn, 1) := by decide +kernel
theorem dX10_drift_12 : decode cX10_drift 12 = .ok (.iconst 0, 1) := by decide +kernel
theorem dX10_drift_13 : decode cX10_drift 13 = .ok (.istore_n 3, 1) := by decide +kernel
theorem dX10_drift_14 : decode cX10_drift 14 = .ok (.iload_n 3, 1) := by decide +kernel
theorem dX10_drift_15 : decode cX10_drift 15 = .ok (.iload_n 1, 1) := by decide +kernel
theorem dX10_drift_16 : decode cX10_drift 16 = .ok (.if_icmp .ge 90, 3) := by decide +kernel
theorem dX10_drift_19 : decode cX10_drift 19 = .ok (.aload_n 0, 1) := by decide +kernel
theorem dX10_drift_20 : decode cX10_drift 20 = .ok (.invokevirtual 194, 3) := by decide +kernel
theorem dX10_drift_23 : decode cX10_drift 23 = .ok (.aload_n 0, 1) := by decide +kernel
theorem dX10_drift_24 : decode cX10_drift 24 = .ok (.getfield 7, 3) := by decide +kernel
theorem dX10_drift_27 : decode cX10_drift 27 = .ok (.iconst 4, 1) := by decide +kernel
theorem dX10_drift_28 : decode cX10_drift 28 = .ok (.iaload, 1) := by decide +kernel
theorem dX10_drift_29 : decode cX10_drift 29 = .ok (.ifCond .le 63, 3) := by decide +kernel
theorem dX10_drift_32 : decode cX10_drift 32 = .ok (.aload_n 0, 1) := by decide +kernel
theorem dX10_drift_33 : decode cX10_drift 33 = .ok (.aload_n 0, 1) := by decide +kernel
theorem dX10_drift_34 : decode cX10_drift 34 = .ok (.getfield 7, 3) := by decide +kernel
theorem dX10_drift_37 : decode cX10_drift 37 = .ok (.iconst 4, 1) := by decide +kernel
theorem dX10_drift_38 : decode cX10_drift 38 = .ok (.iaload, 1) := by decide +kernel
theorem dX10_drift_39 : decode cX10_drift 39 = .ok (.invokevirtual 237, 3) := by decide +kernel
theorem dX10_drift_42 : decode cX10_drift 42 = .ok (.istore 4, 2) := by decide +kernel
theorem dX10_drift_44 : decode cX10_drift 44 = .ok (.aload_n 0, 1) := by decide +kernel
theorem dX10_drift_45 : decode cX10_drift 45 = .ok (.aload_n 0, 1) := by decide +kernel
theorem dX10_drift_46 : decode cX10_drift 46 = .ok (.getfield 7, 3) := by decide +kernel
theorem dX10_drift_49 : decode cX10_drift 49 = .ok (.iconst 3, 1) := by decide +kernel
theorem dX10_drift_50 : decode cX10_drift 50 = .ok (.iaload, 1) := by decide +kernel
theorem dX10_drift_51 : decode cX10_drift 51 = .ok (.invokevirtual 237, 3) := by decide +kernel
theorem dX10_drift_54 : decode cX10_drift 54 = .ok (.istore 5, 2) := by decide +kernel
theorem dX10_drift_56 : decode cX10_drift 56 = .ok (.aload_n 0, 1) := by decide +kernel
theorem dX10_drift_57 : decode cX10_drift 57 = .ok (.bipush 100, 2) := by decide +kernel
theorem dX10_drift_59 : decode cX10_drift 59 = .ok (.invokevirtual 237, 3) := by decide +kernel
theorem dX10_drift_62 : decode cX10_drift 62 = .ok (.istore 6, 2) := by decide +kernel
theorem dX10_drift_64 : decode cX10_drift 64 = .ok (.iload 6, 2) := by decide +kernel
theorem dX10_drift_66 : decode cX10_drift 66 = .ok (.ifCond .le 26, 3) := by decide +kernel
theorem dX10_drift_69 : decode cX10_drift 69 = .ok (.aload_n 0, 1) := by decide +kernel
theorem dX10_drift_70 : decode cX10_drift 70 = .ok (.iload 4, 2) := by decide +kernel
theorem dX10_drift_72 : decode cX10_drift 72 = .ok (.iload 5, 2) := by decide +kernel
theorem dX10_drift_74 : decode cX10_drift 74 = .ok (.iload 6, 2) := by decide +kernel
theorem dX10_drift_76 : decode cX10_drift 76 = .ok (.invokevirtual 190, 3) := by decide +kernel
theorem dX10_drift_79 : decode cX10_drift 79 = .ok (.ifCond .eq 13, 3) := by decide +kernel
theorem dX10_drift_82 : decode cX10_drift 82 = .ok (.aload_n 0, 1) := by decide +kernel
theorem dX10_drift_83 : decode cX10_drift 83 = .ok (.iload 4, 2) := by decide +kernel
theorem dX10_drift_85 : decode cX10_drift 85 = .ok (.iload 5, 2) := by decide +kernel
theorem dX10_drift_87 : decode cX10_drift 87 = .ok (.iload 6, 2) := by decide +kernel
theorem dX10_drift_89 : decode cX10_drift 89 = .ok (.invokevirtual 197, 3) := by decide +kernel
theorem dX10_drift_92 : decode cX10_drift 92 = .ok (.aload_n 0, 1) := by decide +kernel
theorem dX10_drift_93 : decode cX10_drift 93 = .ok (.aload_n 0, 1) := by decide +kernel
theorem dX10_drift_94 : decode cX10_drift 94 = .ok (.getfield 16, 3) := by decide +kernel
theorem dX10_drift_97 : decode cX10_drift 97 = .ok (.invokevirtual 208, 3) := by decide +kernel
theorem dX10_drift_100 : decode cX10_drift 100 = .ok (.iinc 3 1, 3) := by decide +kernel
theorem dX10_drift_103 : decode cX10_drift 103 = .ok (.goto (-89), 3) := by decide +kernel
theorem dX10_drift_106 : decode cX10_drift 106 = .ok (.aload_n 0, 1) := by decide +kernel
theorem dX10_drift_107 : decode cX10_drift 107 = .ok (.invokevirtual 169, 3) := by decide +kernel
theorem dX10_drift_110 : decode cX10_drift 110 = .ok (.ireturn, 1) := by decide +kernel
theorem dX10_undo_0 : decode cX10_undo 0 = .ok (.iload_n 1, 1) := by decide +kernel
theorem dX10_undo_1 : decode cX10_undo 1 = .ok (.i2l, 1) := by decide +kernel
theorem dX10_undo_2 : decode cX10_undo 2 = .ok (.lconst 1, 1) := by decide +kernel
theorem dX10_undo_3 : decode cX10_undo 3 = .ok (.ldc2_w 240, 3) := by decide +kernel
theorem dX10_undo_6 : decode cX10_undo 6 = .ok (.invokestatic 65, 3) := by decide +kernel
theorem dX10_undo_9 : decode cX10_undo 9 = .ok (.ifCond .ne 6, 3) := by decide +kernel
theorem dX10_undo_12 : decode cX10_undo 12 = .ok (.ldc 80, 2) := by decide +kernel
theorem dX10_undo_14 : decode cX10_undo 14 = .ok (.ireturn, 1) := by decide +kernel
theorem dX10_undo_15 : decode cX10_undo 15 = .ok (.aload_n 0, 1) := by decide +kernel
theorem dX10_undo_16 : decode cX10_undo 16 = .ok (.getfield 69, 3) := by decide +kernel
theorem dX10_undo_19 : decode cX10_undo 19 = .ok (.iload_n 1, 1) := by decide +kernel
theorem dX10_undo_20 : decode cX10_undo 20 = .ok (.if_icmp .ge 6, 3) := by decide +kernel
theorem dX10_undo_23 : decode cX10_undo 23 = .ok (.ldc 193, 2) := by decide +kernel
theorem dX10_undo_25 : decode cX10_undo 25 = .ok (.ireturn, 1) := by decide +kernel
theorem dX10_undo_26 : decode cX10_undo 26 = .ok (.aload_n 0, 1) := by decide +kernel
theorem dX10_undo_27 : decode cX10_undo 27 = .ok (.dup, 1) := by decide +kernel
theorem dX10_undo_28 : decode cX10_undo 28 = .ok (.getfield 69, 3) := by decide +kernel
theorem dX10_undo_31 : decode cX10_undo 31 = .ok (.iload_n 1, 1) := by decide +kernel
theorem dX10_undo_32 : decode cX10_undo 32 = .ok (.isub, 1) := by decide +kernel
theorem dX10_undo_33 : decode cX10_undo 33 = .ok (.putfield 69, 3) := by decide +kernel
theorem dX10_undo_36 : decode cX10_undo 36 = .ok (.aload_n 0, 1) := by decide +kernel
theorem dX10_undo_37 : decode cX10_undo 37 = .ok (.getfield 22, 3) := by decide +kernel
theorem dX10_undo_40 : decode cX10_undo 40 = .ok (.bipush 54, 2) := by decide +kernel
theorem dX10_undo_42 : decode cX10_undo 42 = .ok (.aload_n 0, 1) := by decide +kernel
theorem dX10_undo_43 : decode cX10_undo 43 = .ok (.getfield 69, 3) := by decide +kernel
theorem dX10_undo_46 : decode cX10_undo 46 = .ok (.imul, 1) := by decide +kernel
theorem dX10_undo_47 : decode cX10_undo 47 = .ok (.aload_n 0, 1) := by decide +kernel
theorem dX10_undo_48 : decode cX10_undo 48 = .ok (.getfield 16, 3) := by decide +kernel
theorem dX10_undo_51 : decode cX10_undo 51 = .ok (.iconst 0, 1) := by decide +kernel
theorem dX10_undo_52 : decode cX10_undo 52 = .ok (.bipush 54, 2) := by decide +kernel
theorem dX10_undo_54 : decode cX10_undo 54 = .ok (.invokestatic 57, 3) := by decide +kernel
theorem dX10_undo_57 : decode cX10_undo 57 = .ok (.aload_n 0, 1) := by decide +kernel
theorem dX10_undo_58 : decode cX10_undo 58 = .ok (.getfield 16, 3) := by decide +kernel
theorem dX10_undo_61 : decode cX10_undo 61 = .ok (.bipush 53, 2) := by decide +kernel
theorem dX10_undo_63 : decode cX10_undo 63 = .ok (.iaload, 1) := by decide +kernel
theorem dX10_undo_64 : decode cX10_undo 64 = .ok (.ireturn, 1) := by decide +kernel
theorem dX10_layAside_0 : decode cX10_layAside 0 = .ok (.aload_n 0, 1) := by decide +kernel
theorem dX10_layAside_1 : decode cX10_layAside 1 = .ok (.getfield 16, 3) := by decide +kernel
theorem dX10_layAside_4 : decode cX10_layAside 4 = .ok (.iconst 0, 1) := by decide +kernel
theorem dX10_layAside_5 : decode cX10_layAside 5 = .ok (.aload_n 0, 1) := by decide +kernel
theorem dX10_layAside_6 : decode cX10_layAside 6 = .ok (.getfield 19, 3) := by decide +kernel
theorem dX10_layAside_9 : decode cX10_layAside 9 = .ok (.iconst 0, 1) := by decide +kernel
theorem dX10_layAside_10 : decode cX10_layAside 10 = .ok (.bipush 54, 2) := by decide +kernel
theorem dX10_layAside_12 : decode cX10_layAside 12 = .ok (.invokestatic 57, 3) := by decide +kernel
theorem dX10_layAside_15 : decode cX10_layAside 15 = .ok (.return_, 1) := by decide +kernel
theorem dX10_joins_0 : decode cX10_joins 0 = .ok (.aload_n 0, 1) := by decide +kernel
theorem dX10_joins_1 : decode cX10_joins 1 = .ok (.invokevirtual 242, 3) := by decide +kernel
theorem dX10_joins_4 : decode cX10_joins 4 = .ok (.aload_n 0, 1) := by decide +kernel
theorem dX10_joins_5 : decode cX10_joins 5 = .ok (.aload_n 0, 1) := by decide +kernel
theorem dX10_joins_6 : decode cX10_joins 6 = .ok (.getfield 19, 3) := by decide +kernel
theorem dX10_joins_9 : decode cX10_joins 9 = .ok (.iload_n 1, 1) := by decide +kernel
theorem dX10_joins_10 : decode cX10_joins 10 = .ok (.iload_n 2, 1) := by decide +kernel
theorem dX10_joins_11 : decode cX10_joins 11 = .ok (.invokevirtual 221, 3) := by decide +kernel
theorem dX10_joins_14 : decode cX10_joins 14 = .ok (.aload_n 0, 1) := by decide +kernel
theorem dX10_joins_15 : decode cX10_joins 15 = .ok (.aload_n 0, 1) := by decide +kernel
theorem dX10_joins_16 : decode cX10_joins 16 = .ok (.getfield 19, 3) := by decide +kernel
theorem dX10_joins_19 : decode cX10_joins 19 = .ok (.iload_n 1, 1) := by decide +kernel
theorem dX10_joins_20 : decode cX10_joins 20 = .ok (.invokevirtual 179, 3) := by decide +kernel
theorem dX10_joins_23 : decode cX10_joins 23 = .ok (.ireturn, 1) := by decide +kernel
theorem dX10_joined_0 : decode cX10_joined 0 = .ok (.aload_n 0, 1) := by decide +kernel
theorem dX10_joined_1 : decode cX10_joined 1 = .ok (.iload_n 1, 1) := by decide +kernel
theorem dX10_joined_2 : decode cX10_joined 2 = .ok (.invokevirtual 215, 3) := by decide +kernel
theorem dX10_joined_5 : decode cX10_joined 5 = .ok (.ifCond .eq 11, 3) := by decide +kernel
theorem dX10_joined_8 : decode cX10_joined 8 = .ok (.aload_n 0, 1) := by decide +kernel
theorem dX10_joined_9 : decode cX10_joined 9 = .ok (.iload_n 2, 1) := by decide +kernel
theorem dX10_joined_10 : decode cX10_joined 10 = .ok (.invokevirtual 182, 3) := by decide +kernel
theorem dX10_joined_13 : decode cX10_joined 13 = .ok (.ifCond .ne 6, 3) := by decide +kernel
theorem dX10_joined_16 : decode cX10_joined 16 = .ok (.ldc 175, 2) := by decide +kernel
theorem dX10_joined_18 : decode cX10_joined 18 = .ok (.ireturn, 1) := by decide +kernel
theorem dX10_joined_19 : decode cX10_joined 19 = .ok (.aload_n 0, 1) := by decide +kernel
theorem dX10_joined_20 : decode cX10_joined 20 = .ok (.iload_n 1, 1) := by decide +kernel
theorem dX10_joined_21 : decode cX10_joined 21 = .ok (.iload_n 2, 1) := by decide +kernel
theorem dX10_joined_22 : decode cX10_joined 22 = .ok (.invokevirtual 218, 3) := by decide +kernel
theorem dX10_joined_25 : decode cX10_joined 25 = .ok (.ifCond .eq 15, 3) := by decide +kernel
theorem dX10_joined_28 : decode cX10_joined 28 = .ok (.aload_n 0, 1) := by decide +kernel
theorem dX10_joined_29 : decode cX10_joined 29 = .ok (.iload_n 1, 1) := by decide +kernel
theorem dX10_joined_30 : decode cX10_joined 30 = .ok (.iload_n 2, 1) := by decide +kernel
theorem dX10_joined_31 : decode cX10_joined 31 = .ok (.invokevirtual 245, 3) := by decide +kernel
theorem dX10_joined_34 : decode cX10_joined 34 = .ok (.bipush 10, 2) := by decide +kernel
theorem dX10_joined_36 : decode cX10_joined 36 = .ok (.iadd, 1) := by decide +kernel
theorem dX10_joined_37 : decode cX10_joined 37 = .ok (.goto 5, 3) := by decide +kernel
theorem dX10_joined_40 : decode cX10_joined 40 = .ok (.ldc 193, 2) := by decide +kernel
theorem dX10_joined_42 : decode cX10_joined 42 = .ok (.ireturn, 1) := by decide +kernel
theorem dX10_takes_0 : decode cX10_takes 0 = .ok (.iconst 0, 1) := by decide +kernel
theorem dX10_takes_1 : decode cX10_takes 1 = .ok (.istore_n 3, 1) := by decide +kernel
theorem dX10_takes_2 : decode cX10_takes 2 = .ok (.aload_n 0, 1) := by decide +kernel
theorem dX10_takes_3 : decode cX10_takes 3 = .ok (.invokevirtual 242, 3) := by decide +kernel
theorem dX10_takes_6 : decode cX10_takes 6 = .ok (.iconst 0, 1) := by decide +kernel
theorem dX10_takes_7 : decode cX10_takes 7 = .ok (.istore 4, 2) := by decide +kernel
theorem dX10_takes_9 : decode cX10_takes 9 = .ok (.iload 4, 2) := by decide +kernel
theorem dX10_takes_11 : decode cX10_takes 11 = .ok (.aload_n 0, 1) := by decide +kernel
theorem dX10_takes_12 : decode cX10_takes 12 = .ok (.getfield 7, 3) := by decide +kernel
theorem dX10_takes_15 : decode cX10_takes 15 = .ok (.iconst 3, 1) := by decide +kernel
theorem dX10_takes_16 : decode cX10_takes 16 = .ok (.iaload, 1) := by decide +kernel
theorem dX10_takes_17 : decode cX10_takes 17 = .ok (.if_icmp .ge 141, 3) := by decide +kernel
theorem dX10_takes_20 : decode cX10_takes 20 = .ok (.iload_n 2, 1) := by decide +kernel
theorem dX10_takes_21 : decode cX10_takes 21 = .ok (.iload 4, 2) := by decide +kernel
theorem dX10_takes_23 : decode cX10_takes 23 = .ok (.invokestatic 142, 3) := by decide +kernel
theorem dX10_takes_26 : decode cX10_takes 26 = .ok (.ifCond .eq 126, 3) := by decide +kernel
theorem dX10_takes_29 : decode cX10_takes 29 = .ok (.aload_n 0, 1) := by decide +kernel
theorem dX10_takes_30 : decode cX10_takes 30 = .ok (.getfield 7, 3) := by decide +kernel
theorem dX10_takes_33 : decode cX10_takes 33 = .ok (.bipush 9, 2) := by decide +kernel
theorem dX10_takes_35 : decode cX10_takes 35 = .ok (.iload 4, 2) := by decide +kernel
theorem dX10_takes_37 : decode cX10_takes 37 = .ok (.iadd, 1) := by decide +kernel
theorem dX10_takes_38 : decode cX10_takes 38 = .ok (.iaload, 1) := by decide +kernel
theorem dX10_takes_39 : decode cX10_takes 39 = .ok (.aload_n 0, 1) := by decide +kernel
theorem dX10_takes_40 : decode cX10_takes 40 = .ok (.getfield 16, 3) := by decide +kernel
theorem dX10_takes_43 : decode cX10_takes 43 = .ok (.iconst 0, 1) := by decide +kernel
theorem dX10_takes_44 : decode cX10_takes 44 = .ok (.iconst 4, 1) := by decide +kernel
theorem dX10_takes_45 : decode cX10_takes 45 = .ok (.iload_n 1, 1) := by decide +kernel
theorem dX10_takes_46 : decode cX10_takes 46 = .ok (.imul, 1) := by decide +kernel
theorem dX10_takes_47 : decode cX10_takes 47 = .ok (.iadd, 1) := by decide +kernel
theorem dX10_takes_48 : decode cX10_takes 48 = .ok (.iload 4, 2) := by decide +kernel
theorem dX10_takes_50 : decode cX10_takes 50 = .ok (.iadd, 1) := by decide +kernel
theorem dX10_takes_51 : decode cX10_takes 51 = .ok (.iaload, 1) := by decide +kernel
theorem dX10_takes_52 : decode cX10_takes 52 = .ok (.isub, 1) := by decide +kernel
theorem dX10_takes_53 : decode cX10_takes 53 = .ok (.istore 5, 2) := by decide +kernel
theorem dX10_takes_55 : decode cX10_takes 55 = .ok (.aload_n 0, 1) := by decide +kernel
theorem dX10_takes_56 : decode cX10_takes 56 = .ok (.getfield 16, 3) := by decide +kernel
theorem dX10_takes_59 : decode cX10_takes 59 = .ok (.bipush 52, 2) := by decide +kernel
theorem dX10_takes_61 : decode cX10_takes 61 = .ok (.iaload, 1) := by decide +kernel
theorem dX10_takes_62 : decode cX10_takes 62 = .ok (.iload 4, 2) := by decide +kernel
theorem dX10_takes_64 : decode cX10_takes 64 = .ok (.invokestatic 142, 3) := by decide +kernel
theorem dX10_takes_67 : decode cX10_takes 67 = .ok (.ifCond .ne 44, 3) := by decide +kernel
theorem dX10_takes_70 : decode cX10_takes 70 = .ok (.aload_n 0, 1) := by decide +kernel
theorem dX10_takes_71 : decode cX10_takes 71 = .ok (.getfield 16, 3) := by decide +kernel
theorem dX10_takes_74 : decode cX10_takes 74 = .ok (.bipush 36, 2) := by decide +kernel
theorem dX10_takes_76 : decode cX10_takes 76 = .ok (.iload_n 1, 1) := by decide +kernel
theorem dX10_takes_77 : decode cX10_takes 77 = .ok (.iadd, 1) := by decide +kernel
theorem dX10_takes_78 : decode cX10_takes 78 = .ok (.iaload, 1) := by decide +kernel
theorem dX10_takes_79 : decode cX10_takes 79 = .ok (.iload 4, 2) := by decide +kernel
theorem dX10_takes_81 : decode cX10_takes 81 = .ok (.invokestatic 142, 3) := by decide +kernel
theorem dX10_takes_84 : decode cX10_takes 84 = .ok (.ifCond .ne 27, 3) := by decide +kernel
theorem dX10_takes_87 : decode cX10_takes 87 = .ok (.iload 5, 2) := by decide +kernel
theorem dX10_takes_89 : decode cX10_takes 89 = .ok (.ifCond .le 22, 3) := by decide +kernel
theorem dX10_takes_92 : decode cX10_takes 92 = .ok (.iload 5, 2) := by decide +kernel
theorem dX10_takes_94 : decode cX10_takes 94 = .ok (.aload_n 0, 1) := by decide +kernel
theorem dX10_takes_95 : decode cX10_takes 95 = .ok (.getfield 16, 3) := by decide +kernel
theorem dX10_takes_98 : decode cX10_takes 98 = .ok (.bipush 32, 2) := by decide +kernel
theorem dX10_takes_100 : decode cX10_takes 100 = .ok (.iload 4, 2) := by decide +kernel
theorem dX10_takes_102 : decode cX10_takes 102 = .ok (.iadd, 1) := by decide +kernel
theorem dX10_takes_103 : decode cX10_takes 103 = .ok (.iaload, 1) := by decide +kernel
theorem dX10_takes_104 : decode cX10_takes 104 = .ok (.if_icmp .gt 7, 3) := by decide +kernel
theorem dX10_takes_107 : decode cX10_takes 107 = .ok (.iconst 1, 1) := by decide +kernel
theorem dX10_takes_108 : decode cX10_takes 108 = .ok (.goto 4, 3) := by decide +kernel
theorem dX10_takes_111 : decode cX10_takes 111 = .ok (.iconst 0, 1) := by decide +kernel
theorem dX10_takes_112 : decode cX10_takes 112 = .ok (.istore 6, 2) := by decide +kernel
theorem dX10_takes_114 : decode cX10_takes 114 = .ok (.iload_n 3, 1) := by decide +kernel
theorem dX10_takes_115 : decode cX10_takes 115 = .ok (.iload 6, 2) := by decide +kernel
theorem dX10_takes_117 : decode cX10_takes 117 = .ok (.ifCond .eq 8, 3) := by decide +kernel
theorem dX10_takes_120 : decode cX10_takes 120 = .ok (.iload 5, 2) := by decide +kernel
theorem dX10_takes_122 : decode cX10_takes 122 = .ok (.goto 5, 3) := by decide +kernel
theorem dX10_takes_125 : decode cX10_takes 125 = .ok (.ldc 248, 2) := by decide +kernel
theorem dX10_takes_127 : decode cX10_takes 127 = .ok (.iadd, 1) := by decide +kernel
theorem dX10_takes_128 : decode cX10_takes 128 = .ok (.istore_n 3, 1) := by decide +kernel
theorem dX10_takes_129 : decode cX10_takes 129 = .ok (.aload_n 0, 1) := by decide +kernel
theorem dX10_takes_130 : decode cX10_takes 130 = .ok (.getfield 19, 3) := by decide +kernel
theorem dX10_takes_133 : decode cX10_takes 133 = .ok (.iconst 0, 1) := by decide +kernel
theorem dX10_takes_134 : decode cX10_takes 134 = .ok (.iconst 4, 1) := by decide +kernel
theorem dX10_takes_135 : decode cX10_takes 135 = .ok (.iload_n 1, 1) := by decide +kernel
theorem dX10_takes_136 : decode cX10_takes 136 = .ok (.imul, 1) := by decide +kernel
theorem dX10_takes_137 : decode cX10_takes 137 = .ok (.iadd, 1) := by decide +kernel
theorem dX10_takes_138 : decode cX10_takes 138 = .ok (.iload 4, 2) := by decide +kernel
theorem dX10_takes_140 : decode cX10_takes 140 = .ok (.iadd, 1) := by decide +kernel
theorem dX10_takes_141 : decode cX10_takes 141 = .ok (.aload_n 0, 1) := by decide +kernel
theorem dX10_takes_142 : decode cX10_takes 142 = .ok (.getfield 7, 3) := by decide +kernel
theorem dX10_takes_145 : decode cX10_takes 145 = .ok (.bipush 9, 2) := by decide +kernel
theorem dX10_takes_147 : decode cX10_takes 147 = .ok (.iload 4, 2) := by decide +kernel
theorem dX10_takes_149 : decode cX10_takes 149 = .ok (.iadd, 1) := by decide +kernel
theorem dX10_takes_150 : decode cX10_takes 150 = .ok (.iaload, 1) := by decide +kernel
theorem dX10_takes_151 : decode cX10_takes 151 = .ok (.iastore, 1) := by decide +kernel
theorem dX10_takes_152 : decode cX10_takes 152 = .ok (.iinc 4 1, 3) := by decide +kernel
theorem dX10_takes_155 : decode cX10_takes 155 = .ok (.goto (-146), 3) := by decide +kernel
theorem dX10_takes_158 : decode cX10_takes 158 = .ok (.iload_n 3, 1) := by decide +kernel
theorem dX10_takes_159 : decode cX10_takes 159 = .ok (.ireturn, 1) := by decide +kernel
theorem dX10_least_0 : decode cX10_least 0 = .ok (.aload_n 0, 1) := by decide +kernel
theorem dX10_least_1 : decode cX10_least 1 = .ok (.iload_n 1, 1) := by decide +kernel
theorem dX10_least_2 : decode cX10_least 2 = .ok (.invokevirtual 139, 3) := by decide +kernel
theorem dX10_least_5 : decode cX10_least 5 = .ok (.ifCond .ne 6, 3) := by decide +kernel
theorem dX10_least_8 : decode cX10_least 8 = .ok (.ldc 175, 2) := by decide +kernel
theorem dX10_least_10 : decode cX10_least 10 = .ok (.ireturn, 1) := by decide +kernel
theorem dX10_least_11 : decode cX10_least 11 = .ok (.iload_n 2, 1) := by decide +kernel
theorem dX10_least_12 : decode cX10_least 12 = .ok (.i2l, 1) := by decide +kernel
theorem dX10_least_13 : decode cX10_least 13 = .ok (.lconst 1, 1) := by decide +kernel
theorem dX10_least_14 : decode cX10_least 14 = .ok (.ldc2_w 249, 3) := by decide +kernel
theorem dX10_least_17 : decode cX10_least 17 = .ok (.invokestatic 65, 3) := by decide +kernel
theorem dX10_least_20 : decode cX10_least 20 = .ok (.ifCond .eq 13, 3) := by decide +kernel
theorem dX10_least_23 : decode cX10_least 23 = .ok (.iload_n 3, 1) := by decide +kernel
theorem dX10_least_24 : decode cX10_least 24 = .ok (.i2l, 1) := by decide +kernel
theorem dX10_least_25 : decode cX10_least 25 = .ok (.lconst 0, 1) := by decide +kernel
theorem dX10_least_26 : decode cX10_least 26 = .ok (.lconst 1, 1) := by decide +kernel
theorem dX10_least_27 : decode cX10_least 27 = .ok (.invokestatic 65, 3) := by decide +kernel
theorem dX10_least_30 : decode cX10_least 30 = .ok (.ifCond .ne 6, 3) := by decide +kernel
theorem dX10_least_33 : decode cX10_least 33 = .ok (.ldc 80, 2) := by decide +kernel
theorem dX10_least_35 : decode cX10_least 35 = .ok (.ireturn, 1) := by decide +kernel
theorem dX10_least_36 : decode cX10_least 36 = .ok (.aload_n 0, 1) := by decide +kernel
theorem dX10_least_37 : decode cX10_least 37 = .ok (.iload_n 1, 1) := by decide +kernel
theorem dX10_least_38 : decode cX10_least 38 = .ok (.invokevirtual 185, 3) := by decide +kernel
theorem dX10_least_41 : decode cX10_least 41 = .ok (.ifCond .eq 6, 3) := by decide +kernel
theorem dX10_least_44 : decode cX10_least 44 = .ok (.ldc 193, 2) := by decide +kernel
theorem dX10_least_46 : decode cX10_least 46 = .ok (.ireturn, 1) := by decide +kernel
theorem dX10_least_47 : decode cX10_least 47 = .ok (.iconst (-1), 1) := by decide +kernel
theorem dX10_least_48 : decode cX10_least 48 = .ok (.istore 4, 2) := by decide +kernel
theorem dX10_least_50 : decode cX10_least 50 = .ok (.ldc 248, 2) := by decide +kernel
theorem dX10_least_52 : decode cX10_least 52 = .ok (.istore 5, 2) := by decide +kernel
theorem dX10_least_54 : decode cX10_least 54 = .ok (.iconst 0, 1) := by decide +kernel
theorem dX10_least_55 : decode cX10_least 55 = .ok (.istore 6, 2) := by decide +kernel
theorem dX10_least_57 : decode cX10_least 57 = .ok (.iload 6, 2) := by decide +kernel
theorem dX10_least_59 : decode cX10_least 59 = .ok (.iconst 1, 1) := by decide +kernel
theorem dX10_least_60 : decode cX10_least 60 = .ok (.aload_n 0, 1) := by decide +kernel
theorem dX10_least_61 : decode cX10_least 61 = .ok (.getfield 7, 3) := by decide +kernel
theorem dX10_least_64 : decode cX10_least 64 = .ok (.iconst 3, 1) := by decide +kernel
theorem dX10_least_65 : decode cX10_least 65 = .ok (.iaload, 1) := by decide +kernel
theorem dX10_least_66 : decode cX10_least 66 = .ok (.ishl, 1) := by decide +kernel
theorem dX10_least_67 : decode cX10_least 67 = .ok (.if_icmp .ge 46, 3) := by decide +kernel
theorem dX10_least_70 : decode cX10_least 70 = .ok (.aload_n 0, 1) := by decide +kernel
theorem dX10_least_71 : decode cX10_least 71 = .ok (.iload_n 1, 1) := by decide +kernel
theorem dX10_least_72 : decode cX10_least 72 = .ok (.iload 6, 2) := by decide +kernel
theorem dX10_least_74 : decode cX10_least 74 = .ok (.invokevirtual 251, 3) := by decide +kernel
theorem dX10_least_77 : decode cX10_least 77 = .ok (.istore 7, 2) := by decide +kernel
theorem dX10_least_79 : decode cX10_least 79 = .ok (.iload 7, 2) := by decide +kernel
theorem dX10_least_81 : decode cX10_least 81 = .ok (.iload 5, 2) := by decide +kernel
theorem dX10_least_83 : decode cX10_least 83 = .ok (.if_icmp .ge 24, 3) := by decide +kernel
theorem dX10_least_86 : decode cX10_least 86 = .ok (.aload_n 0, 1) := by decide +kernel
theorem dX10_least_87 : decode cX10_least 87 = .ok (.aload_n 0, 1) := by decide +kernel
theorem dX10_least_88 : decode cX10_least 88 = .ok (.getfield 19, 3) := by decide +kernel
theorem dX10_least_91 : decode cX10_least 91 = .ok (.iload_n 1, 1) := by decide +kernel
theorem dX10_least_92 : decode cX10_least 92 = .ok (.invokevirtual 179, 3) := by decide +kernel
theorem dX10_least_95 : decode cX10_least 95 = .ok (.iload_n 2, 1) := by decide +kernel
theorem dX10_least_96 : decode cX10_least 96 = .ok (.if_icmp .lt 11, 3) := by decide +kernel
theorem dX10_least_99 : decode cX10_least 99 = .ok (.iload 7, 2) := by decide +kernel
theorem dX10_least_101 : decode cX10_least 101 = .ok (.istore 5, 2) := by decide +kernel
theorem dX10_least_103 : decode cX10_least 103 = .ok (.iload 6, 2) := by decide +kernel
theorem dX10_least_105 : decode cX10_least 105 = .ok (.istore 4, 2) := by decide +kernel
theorem dX10_least_107 : decode cX10_least 107 = .ok (.iinc 6 1, 3) := by decide +kernel
theorem dX10_least_110 : decode cX10_least 110 = .ok (.goto (-53), 3) := by decide +kernel
theorem dX10_least_113 : decode cX10_least 113 = .ok (.iload_n 3, 1) := by decide +kernel
theorem dX10_least_114 : decode cX10_least 114 = .ok (.ifCond .eq 9, 3) := by decide +kernel
theorem dX10_least_117 : decode cX10_least 117 = .ok (.iload 4, 2) := by decide +kernel
theorem dX10_least_119 : decode cX10_least 119 = .ok (.iconst (-1), 1) := by decide +kernel
theorem dX10_least_120 : decode cX10_least 120 = .ok (.if_icmp .ne 8, 3) := by decide +kernel
theorem dX10_least_123 : decode cX10_least 123 = .ok (.iload 4, 2) := by decide +kernel
theorem dX10_least_125 : decode cX10_least 125 = .ok (.goto 5, 3) := by decide +kernel
theorem dX10_least_128 : decode cX10_least 128 = .ok (.iload 5, 2) := by decide +kernel
theorem dX10_least_130 : decode cX10_least 130 = .ok (.ireturn, 1) := by decide +kernel
theorem dX10_paysBy_0 : decode cX10_paysBy 0 = .ok (.aload_n 0, 1) := by decide +kernel
theorem dX10_paysBy_1 : decode cX10_paysBy 1 = .ok (.iload_n 2, 1) := by decide +kernel
theorem dX10_paysBy_2 : decode cX10_paysBy 2 = .ok (.invokevirtual 154, 3) := by decide +kernel
theorem dX10_paysBy_5 : decode cX10_paysBy 5 = .ok (.istore 4, 2) := by decide +kernel
theorem dX10_paysBy_7 : decode cX10_paysBy 7 = .ok (.iload 4, 2) := by decide +kernel
theorem dX10_paysBy_9 : decode cX10_paysBy 9 = .ok (.i2l, 1) := by decide +kernel
theorem dX10_paysBy_10 : decode cX10_paysBy 10 = .ok (.aload_n 0, 1) := by decide +kernel
theorem dX10_paysBy_11 : decode cX10_paysBy 11 = .ok (.getfield 7, 3) := by decide +kernel
theorem dX10_paysBy_14 : decode cX10_paysBy 14 = .ok (.bipush 9, 2) := by decide +kernel
theorem dX10_paysBy_16 : decode cX10_paysBy 16 = .ok (.iload_n 3, 1) := by decide +kernel
theorem dX10_paysBy_17 : decode cX10_paysBy 17 = .ok (.iadd, 1) := by decide +kernel
theorem dX10_paysBy_18 : decode cX10_paysBy 18 = .ok (.iaload, 1) := by decide +kernel
theorem dX10_paysBy_19 : decode cX10_paysBy 19 = .ok (.i2l, 1) := by decide +kernel
theorem dX10_paysBy_20 : decode cX10_paysBy 20 = .ok (.aload_n 0, 1) := by decide +kernel
theorem dX10_paysBy_21 : decode cX10_paysBy 21 = .ok (.getfield 7, 3) := by decide +kernel
theorem dX10_paysBy_24 : decode cX10_paysBy 24 = .ok (.bipush 13, 2) := by decide +kernel
theorem dX10_paysBy_26 : decode cX10_paysBy 26 = .ok (.iload_n 3, 1) := by decide +kernel
theorem dX10_paysBy_27 : decode cX10_paysBy 27 = .ok (.iadd, 1) := by decide +kernel
theorem dX10_paysBy_28 : decode cX10_paysBy 28 = .ok (.iaload, 1) := by decide +kernel
theorem dX10_paysBy_29 : decode cX10_paysBy 29 = .ok (.i2l, 1) := by decide +kernel
theorem dX10_paysBy_30 : decode cX10_paysBy 30 = .ok (.invokestatic 65, 3) := by decide +kernel
theorem dX10_paysBy_33 : decode cX10_paysBy 33 = .ok (.ifCond .eq 17, 3) := by decide +kernel
theorem dX10_paysBy_36 : decode cX10_paysBy 36 = .ok (.iload_n 1, 1) := by decide +kernel
theorem dX10_paysBy_37 : decode cX10_paysBy 37 = .ok (.iload_n 2, 1) := by decide +kernel
theorem dX10_paysBy_38 : decode cX10_paysBy 38 = .ok (.isub, 1) := by decide +kernel
theorem dX10_paysBy_39 : decode cX10_paysBy 39 = .ok (.aload_n 0, 1) := by decide +kernel
theorem dX10_paysBy_40 : decode cX10_paysBy 40 = .ok (.getfield 48, 3) := by decide +kernel
theorem dX10_paysBy_43 : decode cX10_paysBy 43 = .ok (.iload 4, 2) := by decide +kernel
theorem dX10_paysBy_45 : decode cX10_paysBy 45 = .ok (.iaload, 1) := by decide +kernel
theorem dX10_paysBy_46 : decode cX10_paysBy 46 = .ok (.iadd, 1) := by decide +kernel
theorem dX10_paysBy_47 : decode cX10_paysBy 47 = .ok (.goto 5, 3) := by decide +kernel
theorem dX10_paysBy_50 : decode cX10_paysBy 50 = .ok (.ldc 248, 2) := by decide +kernel
theorem dX10_paysBy_52 : decode cX10_paysBy 52 = .ok (.ireturn, 1) := by decide +kernel
theorem dX10_plan_0 : decode cX10_plan 0 = .ok (.aload_n 0, 1) := by decide +kernel
theorem dX10_plan_1 : decode cX10_plan 1 = .ok (.iload_n 1, 1) := by decide +kernel
theorem dX10_plan_2 : decode cX10_plan 2 = .ok (.invokevirtual 139, 3) := by decide +kernel
theorem dX10_plan_5 : decode cX10_plan 5 = .ok (.ifCond .eq 11, 3) := by decide +kernel
theorem dX10_plan_8 : decode cX10_plan 8 = .ok (.aload_n 0, 1) := by decide +kernel
theorem dX10_plan_9 : decode cX10_plan 9 = .ok (.iload_n 2, 1) := by decide +kernel
theorem dX10_plan_10 : decode cX10_plan 10 = .ok (.invokevirtual 172, 3) := by decide +kernel
theorem dX10_plan_13 : decode cX10_plan 13 = .ok (.ifCond .ne 6, 3) := by decide +kernel
theorem dX10_plan_16 : decode cX10_plan 16 = .ok (.ldc 175, 2) := by decide +kernel
theorem dX10_plan_18 : decode cX10_plan 18 = .ok (.ireturn, 1) := by decide +kernel
theorem dX10_plan_19 : decode cX10_plan 19 = .ok (.iload_n 3, 1) := by decide +kernel
theorem dX10_plan_20 : decode cX10_plan 20 = .ok (.i2l, 1) := by decide +kernel
theorem dX10_plan_21 : decode cX10_plan 21 = .ok (.lconst 1, 1) := by decide +kernel
theorem dX10_plan_22 : decode cX10_plan 22 = .ok (.ldc2_w 254, 3) := by decide +kernel
theorem dX10_plan_25 : decode cX10_plan 25 = .ok (.invokestatic 65, 3) := by decide +kernel
theorem dX10_plan_28 : decode cX10_plan 28 = .ok (.ifCond .eq 14, 3) := by decide +kernel
theorem dX10_plan_31 : decode cX10_plan 31 = .ok (.iload 4, 2) := by decide +kernel
theorem dX10_plan_33 : decode cX10_plan 33 = .ok (.i2l, 1) := by decide +kernel
theorem dX10_plan_34 : decode cX10_plan 34 = .ok (.lconst 0, 1) := by decide +kernel
theorem dX10_plan_35 : decode cX10_plan 35 = .ok (.lconst 1, 1) := by decide +kernel
theorem dX10_plan_36 : decode cX10_plan 36 = .ok (.invokestatic 65, 3) := by decide +kernel
theorem dX10_plan_39 : decode cX10_plan 39 = .ok (.ifCond .ne 6, 3) := by decide +kernel
theorem dX10_plan_42 : decode cX10_plan 42 = .ok (.ldc 80, 2) := by decide +kernel
theorem dX10_plan_44 : decode cX10_plan 44 = .ok (.ireturn, 1) := by decide +kernel
theorem dX10_plan_45 : decode cX10_plan 45 = .ok (.aload_n 0, 1) := by decide +kernel
theorem dX10_plan_46 : decode cX10_plan 46 = .ok (.getfield 16, 3) := by decide +kernel
theorem dX10_plan_49 : decode cX10_plan 49 = .ok (.bipush 52, 2) := by decide +kernel
theorem dX10_plan_51 : decode cX10_plan 51 = .ok (.iaload, 1) := by decide +kernel
theorem dX10_plan_52 : decode cX10_plan 52 = .ok (.iload_n 2, 1) := by decide +kernel
theorem dX10_plan_53 : decode cX10_plan 53 = .ok (.invokestatic 142, 3) := by decide +kernel
theorem dX10_plan_56 : decode cX10_plan 56 = .ok (.ifCond .eq 5, 3) := by decide +kernel
theorem dX10_plan_59 : decode cX10_plan 59 = .ok (.iconst (-1), 1) := by decide +kernel
theorem dX10_plan_60 : decode cX10_plan 60 = .ok (.ireturn, 1) := by decide +kernel
theorem dX10_plan_61 : decode cX10_plan 61 = .ok (.iconst 0, 1) := by decide +kernel
theorem dX10_plan_62 : decode cX10_plan 62 = .ok (.istore 5, 2) := by decide +kernel
theorem dX10_plan_64 : decode cX10_plan 64 = .ok (.iload 5, 2) := by decide +kernel
theorem dX10_plan_66 : decode cX10_plan 66 = .ok (.sipush 1000, 3) := by decide +kernel
theorem dX10_plan_69 : decode cX10_plan 69 = .ok (.if_icmp .ge 17, 3) := by decide +kernel
theorem dX10_plan_72 : decode cX10_plan 72 = .ok (.aload_n 0, 1) := by decide +kernel
theorem dX10_plan_73 : decode cX10_plan 73 = .ok (.getfield 48, 3) := by decide +kernel
theorem dX10_plan_76 : decode cX10_plan 76 = .ok (.iload 5, 2) := by decide +kernel
theorem dX10_plan_78 : decode cX10_plan 78 = .ok (.iconst 0, 1) := by decide +kernel
theorem dX10_plan_79 : decode cX10_plan 79 = .ok (.iastore, 1) := by decide +kernel
theorem dX10_plan_80 : decode cX10_plan 80 = .ok (.iinc 5 1, 3) := by decide +kernel
theorem dX10_plan_83 : decode cX10_plan 83 = .ok (.goto (-19), 3) := by decide +kernel
theorem dX10_plan_86 : decode cX10_plan 86 = .ok (.iload_n 3, 1) := by decide +kernel
theorem dX10_plan_87 : decode cX10_plan 87 = .ok (.istore 5, 2) := by decide +kernel
theorem dX10_plan_89 : decode cX10_plan 89 = .ok (.iload 5, 2) := by decide +kernel
theorem dX10_plan_91 : decode cX10_plan 91 = .ok (.iconst 1, 1) := by decide +kernel
theorem dX10_plan_92 : decode cX10_plan 92 = .ok (.if_icmp .le 86, 3) := by decide +kernel
theorem dX10_plan_95 : decode cX10_plan 95 = .ok (.ldc 248, 2) := by decide +kernel
theorem dX10_plan_97 : decode cX10_plan 97 = .ok (.istore 6, 2) := by decide +kernel
theorem dX10_plan_99 : decode cX10_plan 99 = .ok (.iconst 0, 1) := by decide +kernel
theorem dX10_plan_100 : decode cX10_plan 100 = .ok (.istore 7, 2) := by decide +kernel
theorem dX10_plan_102 : decode cX10_plan 102 = .ok (.iload 7, 2) := by decide +kernel
theorem dX10_plan_104 : decode cX10_plan 104 = .ok (.sipush 1000, 3) := by decide +kernel
theorem dX10_plan_107 : decode cX10_plan 107 = .ok (.if_icmp .ge 49, 3) := by decide +kernel
theorem dX10_plan_110 : decode cX10_plan 110 = .ok (.iload 6, 2) := by decide +kernel
theorem dX10_plan_112 : decode cX10_plan 112 = .ok (.aload_n 0, 1) := by decide +kernel
theorem dX10_plan_113 : decode cX10_plan 113 = .ok (.iconst 0, 1) := by decide +kernel
theorem dX10_plan_114 : decode cX10_plan 114 = .ok (.iload 7, 2) := by decide +kernel
theorem dX10_plan_116 : decode cX10_plan 116 = .ok (.iload_n 2, 1) := by decide +kernel
theorem dX10_plan_117 : decode cX10_plan 117 = .ok (.invokevirtual 256, 3) := by decide +kernel
theorem dX10_plan_120 : decode cX10_plan 120 = .ok (.invokestatic 150, 3) := by decide +kernel
theorem dX10_plan_123 : decode cX10_plan 123 = .ok (.istore 6, 2) := by decide +kernel
theorem dX10_plan_125 : decode cX10_plan 125 = .ok (.aload_n 0, 1) := by decide +kernel
theorem dX10_plan_126 : decode cX10_plan 126 = .ok (.getfield 45, 3) := by decide +kernel
theorem dX10_plan_129 : decode cX10_plan 129 = .ok (.iload 7, 2) := by decide +kernel
theorem dX10_plan_131 : decode cX10_plan 131 = .ok (.iload 6, 2) := by decide +kernel
theorem dX10_plan_133 : decode cX10_plan 133 = .ok (.ldc_w 260, 3) := by decide +kernel
theorem dX10_plan_136 : decode cX10_plan 136 = .ok (.if_icmp .lt 8, 3) := by decide +kernel
theorem dX10_plan_139 : decode cX10_plan 139 = .ok (.ldc 248, 2) := by decide +kernel
theorem dX10_plan_141 : decode cX10_plan 141 = .ok (.goto 8, 3) := by decide +kernel
theorem dX10_plan_144 : decode cX10_plan 144 = .ok (.iload 6, 2) := by decide +kernel
theorem dX10_plan_146 : decode cX10_plan 146 = .ok (.iload 7, 2) := by decide +kernel
theorem dX10_plan_148 : decode cX10_plan 148 = .ok (.iadd, 1) := by decide +kernel
theorem dX10_plan_149 : decode cX10_plan 149 = .ok (.iastore, 1) := by decide +kernel
theorem dX10_plan_150 : decode cX10_plan 150 = .ok (.iinc 7 1, 3) := by decide +kernel
theorem dX10_plan_153 : decode cX10_plan 153 = .ok (.goto (-51), 3) := by decide +kernel
theorem dX10_plan_156 : decode cX10_plan 156 = .ok (.aload_n 0, 1) := by decide +kernel
theorem dX10_plan_157 : decode cX10_plan 157 = .ok (.getfield 45, 3) := by decide +kernel
theorem dX10_plan_160 : decode cX10_plan 160 = .ok (.iconst 0, 1) := by decide +kernel
theorem dX10_plan_161 : decode cX10_plan 161 = .ok (.aload_n 0, 1) := by decide +kernel
theorem dX10_plan_162 : decode cX10_plan 162 = .ok (.getfield 48, 3) := by decide +kernel
theorem dX10_plan_165 : decode cX10_plan 165 = .ok (.iconst 0, 1) := by decide +kernel
theorem dX10_plan_166 : decode cX10_plan 166 = .ok (.sipush 1000, 3) := by decide +kernel
theorem dX10_plan_169 : decode cX10_plan 169 = .ok (.invokestatic 57, 3) := by decide +kernel
theorem dX10_plan_172 : decode cX10_plan 172 = .ok (.iinc 5 (-1), 3) := by decide +kernel
theorem dX10_plan_175 : decode cX10_plan 175 = .ok (.goto (-86), 3) := by decide +kernel
theorem dX10_plan_178 : decode cX10_plan 178 = .ok (.aload_n 0, 1) := by decide +kernel
theorem dX10_plan_179 : decode cX10_plan 179 = .ok (.getfield 16, 3) := by decide +kernel
theorem dX10_plan_182 : decode cX10_plan 182 = .ok (.iconst 0, 1) := by decide +kernel
theorem dX10_plan_183 : decode cX10_plan 183 = .ok (.iconst 4, 1) := by decide +kernel
theorem dX10_plan_184 : decode cX10_plan 184 = .ok (.iload_n 1, 1) := by decide +kernel
theorem dX10_plan_185 : decode cX10_plan 185 = .ok (.imul, 1) := by decide +kernel
theorem dX10_plan_186 : decode cX10_plan 186 = .ok (.iadd, 1) := by decide +kernel
theorem dX10_plan_187 : decode cX10_plan 187 = .ok (.iload_n 2, 1) := by decide +kernel
theorem dX10_plan_188 : decode cX10_plan 188 = .ok (.iadd, 1) := by decide +kernel
theorem dX10_plan_189 : decode cX10_plan 189 = .ok (.iaload, 1) := by decide +kernel
theorem dX10_plan_190 : decode cX10_plan 190 = .ok (.istore 5, 2) := by decide +kernel
theorem dX10_plan_192 : decode cX10_plan 192 = .ok (.ldc_w 260, 3) := by decide +kernel
theorem dX10_plan_195 : decode cX10_plan 195 = .ok (.istore 6, 2) := by decide +kernel
theorem dX10_plan_197 : decode cX10_plan 197 = .ok (.iconst (-1), 1) := by decide +kernel
theorem dX10_plan_198 : decode cX10_plan 198 = .ok (.istore 7, 2) := by decide +kernel
theorem dX10_plan_200 : decode cX10_plan 200 = .ok (.iload 5, 2) := by decide +kernel
theorem dX10_plan_202 : decode cX10_plan 202 = .ok (.sipush 999, 3) := by decide +kernel
theorem dX10_plan_205 : decode cX10_plan 205 = .ok (.invokestatic 150, 3) := by decide +kernel
theorem dX10_plan_208 : decode cX10_plan 208 = .ok (.istore 8, 2) := by decide +kernel
theorem dX10_plan_210 : decode cX10_plan 210 = .ok (.iload 8, 2) := by decide +kernel
theorem dX10_plan_212 : decode cX10_plan 212 = .ok (.ifCond .lt 48, 3) := by decide +kernel
theorem dX10_plan_215 : decode cX10_plan 215 = .ok (.aload_n 0, 1) := by decide +kernel
theorem dX10_plan_216 : decode cX10_plan 216 = .ok (.iload 5, 2) := by decide +kernel
theorem dX10_plan_218 : decode cX10_plan 218 = .ok (.iload 8, 2) := by decide +kernel
theorem dX10_plan_220 : decode cX10_plan 220 = .ok (.iload_n 2, 1) := by decide +kernel
theorem dX10_plan_221 : decode cX10_plan 221 = .ok (.invokevirtual 256, 3) := by decide +kernel
theorem dX10_plan_224 : decode cX10_plan 224 = .ok (.istore 9, 2) := by decide +kernel
theorem dX10_plan_226 : decode cX10_plan 226 = .ok (.iload 9, 2) := by decide +kernel
theorem dX10_plan_228 : decode cX10_plan 228 = .ok (.iload 6, 2) := by decide +kernel
theorem dX10_plan_230 : decode cX10_plan 230 = .ok (.if_icmp .ge 11, 3) := by decide +kernel
theorem dX10_plan_233 : decode cX10_plan 233 = .ok (.iload 5, 2) := by decide +kernel
theorem dX10_plan_235 : decode cX10_plan 235 = .ok (.iload 8, 2) := by decide +kernel
theorem dX10_plan_237 : decode cX10_plan 237 = .ok (.isub, 1) := by decide +kernel
theorem dX10_plan_238 : decode cX10_plan 238 = .ok (.goto 5, 3) := by decide +kernel
theorem dX10_plan_241 : decode cX10_plan 241 = .ok (.iload 7, 2) := by decide +kernel
theorem dX10_plan_243 : decode cX10_plan 243 = .ok (.istore 7, 2) := by decide +kernel
theorem dX10_plan_245 : decode cX10_plan 245 = .ok (.iload 6, 2) := by decide +kernel
theorem dX10_plan_247 : decode cX10_plan 247 = .ok (.iload 9, 2) := by decide +kernel
theorem dX10_plan_249 : decode cX10_plan 249 = .ok (.invokestatic 150, 3) := by decide +kernel
theorem dX10_plan_252 : decode cX10_plan 252 = .ok (.istore 6, 2) := by decide +kernel
theorem dX10_plan_254 : decode cX10_plan 254 = .ok (.iinc 8 (-1), 3) := by decide +kernel
theorem dX10_plan_257 : decode cX10_plan 257 = .ok (.goto (-47), 3) := by decide +kernel
theorem dX10_plan_260 : decode cX10_plan 260 = .ok (.iload 7, 2) := by decide +kernel
theorem dX10_plan_262 : decode cX10_plan 262 = .ok (.iconst (-1), 1) := by decide +kernel
theorem dX10_plan_263 : decode cX10_plan 263 = .ok (.if_icmp .ne 7, 3) := by decide +kernel
theorem dX10_plan_266 : decode cX10_plan 266 = .ok (.iconst (-1), 1) := by decide +kernel
theorem dX10_plan_267 : decode cX10_plan 267 = .ok (.goto 15, 3) := by decide +kernel
theorem dX10_plan_270 : decode cX10_plan 270 = .ok (.iload 4, 2) := by decide +kernel
theorem dX10_plan_272 : decode cX10_plan 272 = .ok (.ifCond .ne 8, 3) := by decide +kernel
theorem dX10_plan_275 : decode cX10_plan 275 = .ok (.iload 6, 2) := by decide +kernel
theorem dX10_plan_277 : decode cX10_plan 277 = .ok (.goto 5, 3) := by decide +kernel
theorem dX10_plan_280 : decode cX10_plan 280 = .ok (.iload 7, 2) := by decide +kernel
theorem dX10_plan_282 : decode cX10_plan 282 = .ok (.ireturn, 1) := by decide +kernel
theorem dX10_makesPairs_0 : decode cX10_makesPairs 0 = .ok (.aload_n 0, 1) := by decide +kernel
theorem dX10_makesPairs_1 : decode cX10_makesPairs 1 = .ok (.invokevirtual 166, 3) := by decide +kernel
theorem dX10_makesPairs_4 : decode cX10_makesPairs 4 = .ok (.istore_n 1, 1) := by decide +kernel
theorem dX10_makesPairs_5 : decode cX10_makesPairs 5 = .ok (.iconst 0, 1) := by decide +kernel
theorem dX10_makesPairs_6 : decode cX10_makesPairs 6 = .ok (.istore_n 2, 1) := by decide +kernel
theorem dX10_makesPairs_7 : decode cX10_makesPairs 7 = .ok (.iconst 0, 1) := by decide +kernel
theorem dX10_makesPairs_8 : decode cX10_makesPairs 8 = .ok (.istore_n 3, 1) := by decide +kernel
theorem dX10_makesPairs_9 : decode cX10_makesPairs 9 = .ok (.iload_n 3, 1) := by decide +kernel
theorem dX10_makesPairs_10 : decode cX10_makesPairs 10 = .ok (.bipush 8, 2) := by decide +kernel
theorem dX10_makesPairs_12 : decode cX10_makesPairs 12 = .ok (.if_icmp .ge 16, 3) := by decide +kernel
theorem dX10_makesPairs_15 : decode cX10_makesPairs 15 = .ok (.aload_n 0, 1) := by decide +kernel
theorem dX10_makesPairs_16 : decode cX10_makesPairs 16 = .ok (.getfield 51, 3) := by decide +kernel
theorem dX10_makesPairs_19 : decode cX10_makesPairs 19 = .ok (.iload_n 3, 1) := by decide +kernel
theorem dX10_makesPairs_20 : decode cX10_makesPairs 20 = .ok (.iconst (-1), 1) := by decide +kernel
theorem dX10_makesPairs_21 : decode cX10_makesPairs 21 = .ok (.iastore, 1) := by decide +kernel
theorem dX10_makesPairs_22 : decode cX10_makesPairs 22 = .ok (.iinc 3 1, 3) := by decide +kernel
theorem dX10_makesPairs_25 : decode cX10_makesPairs 25 = .ok (.goto (-16), 3) := by decide +kernel
theorem dX10_makesPairs_28 : decode cX10_makesPairs 28 = .ok (.iconst 1, 1) := by decide +kernel
theorem dX10_makesPairs_29 : decode cX10_makesPairs 29 = .ok (.istore_n 3, 1) := by decide +kernel
theorem dX10_makesPairs_30 : decode cX10_makesPairs 30 = .ok (.iload_n 3, 1) := by decide +kernel
theorem dX10_makesPairs_31 : decode cX10_makesPairs 31 = .ok (.ifCond .eq 223, 3) := by decide +kernel
theorem dX10_makesPairs_34 : decode cX10_makesPairs 34 = .ok (.iconst 0, 1) := by decide +kernel
theorem dX10_makesPairs_35 : decode cX10_makesPairs 35 = .ok (.istore_n 3, 1) := by decide +kernel
theorem dX10_makesPairs_36 : decode cX10_makesPairs 36 = .ok (.ldc_w 261, 3) := by decide +kernel
theorem dX10_makesPairs_39 : decode cX10_makesPairs 39 = .ok (.istore 4, 2) := by decide +kernel
theorem dX10_makesPairs_41 : decode cX10_makesPairs 41 = .ok (.iconst (-1), 1) := by decide +kernel
theorem dX10_makesPairs_42 : decode cX10_makesPairs 42 = .ok (.istore 5, 2) := by decide +kernel
theorem dX10_makesPairs_44 : decode cX10_makesPairs 44 = .ok (.iconst (-1), 1) := by decide +kernel
theorem dX10_makesPairs_45 : decode cX10_makesPairs 45 = .ok (.istore 6, 2) := by decide +kernel
theorem dX10_makesPairs_47 : decode cX10_makesPairs 47 = .ok (.iconst 0, 1) := by decide +kernel
theorem dX10_makesPairs_48 : decode cX10_makesPairs 48 = .ok (.istore 7, 2) := by decide +kernel
theorem dX10_makesPairs_50 : decode cX10_makesPairs 50 = .ok (.iload 7, 2) := by decide +kernel
theorem dX10_makesPairs_52 : decode cX10_makesPairs 52 = .ok (.aload_n 0, 1) := by decide +kernel
theorem dX10_makesPairs_53 : decode cX10_makesPairs 53 = .ok (.getfield 7, 3) := by decide +kernel
theorem dX10_makesPairs_56 : decode cX10_makesPairs 56 = .ok (.iconst 4, 1) := by decide +kernel
theorem dX10_makesPairs_57 : decode cX10_makesPairs 57 = .ok (.iaload, 1) := by decide +kernel
theorem dX10_makesPairs_58 : decode cX10_makesPairs 58 = .ok (.if_icmp .ge 161, 3) := by decide +kernel
theorem dX10_makesPairs_61 : decode cX10_makesPairs 61 = .ok (.iconst 0, 1) := by decide +kernel
theorem dX10_makesPairs_62 : decode cX10_makesPairs 62 = .ok (.istore 8, 2) := by decide +kernel
theorem dX10_makesPairs_64 : decode cX10_makesPairs 64 = .ok (.iload 8, 2) := by decide +kernel
theorem dX10_makesPairs_66 : decode cX10_makesPairs 66 = .ok (.aload_n 0, 1) := by decide +kernel
theorem dX10_makesPairs_67 : decode cX10_makesPairs 67 = .ok (.getfield 7, 3) := by decide +kernel
theorem dX10_makesPairs_70 : decode cX10_makesPairs 70 = .ok (.iconst 4, 1) := by decide +kernel
theorem dX10_makesPairs_71 : decode cX10_makesPairs 71 = .ok (.iaload, 1) := by decide +kernel
theorem dX10_makesPairs_72 : decode cX10_makesPairs 72 = .ok (.if_icmp .ge 141, 3) := by decide +kernel
theorem dX10_makesPairs_75 : decode cX10_makesPairs 75 = .ok (.aload_n 0, 1) := by decide +kernel
theorem dX10_makesPairs_76 : decode cX10_makesPairs 76 = .ok (.iload 7, 2) := by decide +kernel
theorem dX10_makesPairs_78 : decode cX10_makesPairs 78 = .ok (.invokevirtual 215, 3) := by decide +kernel
theorem dX10_makesPairs_81 : decode cX10_makesPairs 81 = .ok (.ifCond .eq 126, 3) := by decide +kernel
theorem dX10_makesPairs_84 : decode cX10_makesPairs 84 = .ok (.aload_n 0, 1) := by decide +kernel
theorem dX10_makesPairs_85 : decode cX10_makesPairs 85 = .ok (.iload 8, 2) := by decide +kernel
theorem dX10_makesPairs_87 : decode cX10_makesPairs 87 = .ok (.invokevirtual 182, 3) := by decide +kernel
theorem dX10_makesPairs_90 : decode cX10_makesPairs 90 = .ok (.ifCond .eq 117, 3) := by decide +kernel
theorem dX10_makesPairs_93 : decode cX10_makesPairs 93 = .ok (.iload_n 1, 1) := by decide +kernel
theorem dX10_makesPairs_94 : decode cX10_makesPairs 94 = .ok (.iload 7, 2) := by decide +kernel
theorem dX10_makesPairs_96 : decode cX10_makesPairs 96 = .ok (.invokestatic 142, 3) := by decide +kernel
theorem dX10_makesPairs_99 : decode cX10_makesPairs 99 = .ok (.ifCond .ne 108, 3) := by decide +kernel
theorem dX10_makesPairs_102 : decode cX10_makesPairs 102 = .ok (.iload_n 1, 1) := by decide +kernel
theorem dX10_makesPairs_103 : decode cX10_makesPairs 103 = .ok (.iload 8, 2) := by decide +kernel
theorem dX10_makesPairs_105 : decode cX10_makesPairs 105 = .ok (.invokestatic 142, 3) := by decide +kernel
theorem dX10_makesPairs_108 : decode cX10_makesPairs 108 = .ok (.ifCond .ne 99, 3) := by decide +kernel
theorem dX10_makesPairs_111 : decode cX10_makesPairs 111 = .ok (.aload_n 0, 1) := by decide +kernel
theorem dX10_makesPairs_112 : decode cX10_makesPairs 112 = .ok (.iload 7, 2) := by decide +kernel
theorem dX10_makesPairs_114 : decode cX10_makesPairs 114 = .ok (.iload 8, 2) := by decide +kernel
theorem dX10_makesPairs_116 : decode cX10_makesPairs 116 = .ok (.invokevirtual 245, 3) := by decide +kernel
theorem dX10_makesPairs_119 : decode cX10_makesPairs 119 = .ok (.istore 9, 2) := by decide +kernel
theorem dX10_makesPairs_121 : decode cX10_makesPairs 121 = .ok (.iload 9, 2) := by decide +kernel
theorem dX10_makesPairs_123 : decode cX10_makesPairs 123 = .ok (.aload_n 0, 1) := by decide +kernel
theorem dX10_makesPairs_124 : decode cX10_makesPairs 124 = .ok (.aload_n 0, 1) := by decide +kernel
theorem dX10_makesPairs_125 : decode cX10_makesPairs 125 = .ok (.getfield 16, 3) := by decide +kernel
theorem dX10_makesPairs_128 : decode cX10_makesPairs 128 = .ok (.iload 7, 2) := by decide +kernel
theorem dX10_makesPairs_130 : decode cX10_makesPairs 130 = .ok (.invokevirtual 179, 3) := by decide +kernel
theorem dX10_makesPairs_133 : decode cX10_makesPairs 133 = .ok (.if_icmp .le 29, 3) := by decide +kernel
theorem dX10_makesPairs_136 : decode cX10_makesPairs 136 = .ok (.iload 9, 2) := by decide +kernel
theorem dX10_makesPairs_138 : decode cX10_makesPairs 138 = .ok (.aload_n 0, 1) := by decide +kernel
theorem dX10_makesPairs_139 : decode cX10_makesPairs 139 = .ok (.aload_n 0, 1) := by decide +kernel
theorem dX10_makesPairs_140 : decode cX10_makesPairs 140 = .ok (.getfield 16, 3) := by decide +kernel
theorem dX10_makesPairs_143 : decode cX10_makesPairs 143 = .ok (.iload 8, 2) := by decide +kernel
theorem dX10_makesPairs_145 : decode cX10_makesPairs 145 = .ok (.invokevirtual 179, 3) := by decide +kernel
theorem dX10_makesPairs_148 : decode cX10_makesPairs 148 = .ok (.if_icmp .le 14, 3) := by decide +kernel
theorem dX10_makesPairs_151 : decode cX10_makesPairs 151 = .ok (.iload 9, 2) := by decide +kernel
theorem dX10_makesPairs_153 : decode cX10_makesPairs 153 = .ok (.iload 4, 2) := by decide +kernel
theorem dX10_makesPairs_155 : decode cX10_makesPairs 155 = .ok (.if_icmp .le 7, 3) := by decide +kernel
theorem dX10_makesPairs_158 : decode cX10_makesPairs 158 = .ok (.iconst 1, 1) := by decide +kernel
theorem dX10_makesPairs_159 : decode cX10_makesPairs 159 = .ok (.goto 4, 3) := by decide +kernel
theorem dX10_makesPairs_162 : decode cX10_makesPairs 162 = .ok (.iconst 0, 1) := by decide +kernel
theorem dX10_makesPairs_163 : decode cX10_makesPairs 163 = .ok (.istore 10, 2) := by decide +kernel
theorem dX10_makesPairs_165 : decode cX10_makesPairs 165 = .ok (.iload 10, 2) := by decide +kernel
theorem dX10_makesPairs_167 : decode cX10_makesPairs 167 = .ok (.ifCond .eq 8, 3) := by decide +kernel
theorem dX10_makesPairs_170 : decode cX10_makesPairs 170 = .ok (.iload 7, 2) := by decide +kernel
theorem dX10_makesPairs_172 : decode cX10_makesPairs 172 = .ok (.goto 5, 3) := by decide +kernel
theorem dX10_makesPairs_175 : decode cX10_makesPairs 175 = .ok (.iload 5, 2) := by decide +kernel
theorem dX10_makesPairs_177 : decode cX10_makesPairs 177 = .ok (.istore 5, 2) := by decide +kernel
theorem dX10_makesPairs_179 : decode cX10_makesPairs 179 = .ok (.iload 10, 2) := by decide +kernel
theorem dX10_makesPairs_181 : decode cX10_makesPairs 181 = .ok (.ifCond .eq 8, 3) := by decide +kernel
theorem dX10_makesPairs_184 : decode cX10_makesPairs 184 = .ok (.iload 8, 2) := by decide +kernel
theorem dX10_makesPairs_186 : decode cX10_makesPairs 186 = .ok (.goto 5, 3) := by decide +kernel
theorem dX10_makesPairs_189 : decode cX10_makesPairs 189 = .ok (.iload 6, 2) := by decide +kernel
theorem dX10_makesPairs_191 : decode cX10_makesPairs 191 = .ok (.istore 6, 2) := by decide +kernel
theorem dX10_makesPairs_193 : decode cX10_makesPairs 193 = .ok (.iload 10, 2) := by decide +kernel
theorem dX10_makesPairs_195 : decode cX10_makesPairs 195 = .ok (.ifCond .eq 8, 3) := by decide +kernel
theorem dX10_makesPairs_198 : decode cX10_makesPairs 198 = .ok (.iload 9, 2) := by decide +kernel
theorem dX10_makesPairs_200 : decode cX10_makesPairs 200 = .ok (.goto 5, 3) := by decide +kernel
theorem dX10_makesPairs_203 : decode cX10_makesPairs 203 = .ok (.iload 4, 2) := by decide +kernel
theorem dX10_makesPairs_205 : decode cX10_makesPairs 205 = .ok (.istore 4, 2) := by decide +kernel
theorem dX10_makesPairs_207 : decode cX10_makesPairs 207 = .ok (.iinc 8 1, 3) := by decide +kernel
theorem dX10_makesPairs_210 : decode cX10_makesPairs 210 = .ok (.goto (-146), 3) := by decide +kernel
theorem dX10_makesPairs_213 : decode cX10_makesPairs 213 = .ok (.iinc 7 1, 3) := by decide +kernel
theorem dX10_makesPairs_216 : decode cX10_makesPairs 216 = .ok (.goto (-166), 3) := by decide +kernel
theorem dX10_makesPairs_219 : decode cX10_makesPairs 219 = .ok (.iload 5, 2) := by decide +kernel
theorem dX10_makesPairs_221 : decode cX10_makesPairs 221 = .ok (.iconst (-1), 1) := by decide +kernel
theorem dX10_makesPairs_222 : decode cX10_makesPairs 222 = .ok (.if_icmp .eq 29, 3) := by decide +kernel
theorem dX10_makesPairs_225 : decode cX10_makesPairs 225 = .ok (.aload_n 0, 1) := by decide +kernel
theorem dX10_makesPairs_226 : decode cX10_makesPairs 226 = .ok (.getfield 51, 3) := by decide +kernel
theorem dX10_makesPairs_229 : decode cX10_makesPairs 229 = .ok (.iload 5, 2) := by decide +kernel
theorem dX10_makesPairs_231 : decode cX10_makesPairs 231 = .ok (.iload 6, 2) := by decide +kernel
theorem dX10_makesPairs_233 : decode cX10_makesPairs 233 = .ok (.iastore, 1) := by decide +kernel
theorem dX10_makesPairs_234 : decode cX10_makesPairs 234 = .ok (.iload_n 1, 1) := by decide +kernel
theorem dX10_makesPairs_235 : decode cX10_makesPairs 235 = .ok (.iconst 1, 1) := by decide +kernel
theorem dX10_makesPairs_236 : decode cX10_makesPairs 236 = .ok (.iload 5, 2) := by decide +kernel
theorem dX10_makesPairs_238 : decode cX10_makesPairs 238 = .ok (.ishl, 1) := by decide +kernel
theorem dX10_makesPairs_239 : decode cX10_makesPairs 239 = .ok (.iconst 1, 1) := by decide +kernel
theorem dX10_makesPairs_240 : decode cX10_makesPairs 240 = .ok (.iload 6, 2) := by decide +kernel
theorem dX10_makesPairs_242 : decode cX10_makesPairs 242 = .ok (.ishl, 1) := by decide +kernel
theorem dX10_makesPairs_243 : decode cX10_makesPairs 243 = .ok (.ior, 1) := by decide +kernel
theorem dX10_makesPairs_244 : decode cX10_makesPairs 244 = .ok (.ior, 1) := by decide +kernel
theorem dX10_makesPairs_245 : decode cX10_makesPairs 245 = .ok (.istore_n 1, 1) := by decide +kernel
theorem dX10_makesPairs_246 : decode cX10_makesPairs 246 = .ok (.iinc 2 1, 3) := by decide +kernel
theorem dX10_makesPairs_249 : decode cX10_makesPairs 249 = .ok (.iconst 1, 1) := by decide +kernel
theorem dX10_makesPairs_250 : decode cX10_makesPairs 250 = .ok (.istore_n 3, 1) := by decide +kernel
theorem dX10_makesPairs_251 : decode cX10_makesPairs 251 = .ok (.goto (-221), 3) := by decide +kernel
theorem dX10_makesPairs_254 : decode cX10_makesPairs 254 = .ok (.iload_n 2, 1) := by decide +kernel
theorem dX10_makesPairs_255 : decode cX10_makesPairs 255 = .ok (.ireturn, 1) := by decide +kernel
theorem dX10_matches_0 : decode cX10_matches 0 = .ok (.iload_n 1, 1) := by decide +kernel
theorem dX10_matches_1 : decode cX10_matches 1 = .ok (.iconst (-1), 1) := by decide +kernel
theorem dX10_matches_2 : decode cX10_matches 2 = .ok (.if_icmp .eq 14, 3) := by decide +kernel
theorem dX10_matches_5 : decode cX10_matches 5 = .ok (.aload_n 0, 1) := by decide +kernel
theorem dX10_matches_6 : decode cX10_matches 6 = .ok (.iload_n 1, 1) := by decide +kernel
theorem dX10_matches_7 : decode cX10_matches 7 = .ok (.invokevirtual 215, 3) := by decide +kernel
theorem dX10_matches_10 : decode cX10_matches 10 = .ok (.ifCond .ne 6, 3) := by decide +kernel
theorem dX10_matches_13 : decode cX10_matches 13 = .ok (.ldc 175, 2) := by decide +kernel
theorem dX10_matches_15 : decode cX10_matches 15 = .ok (.ireturn, 1) := by decide +kernel
theorem dX10_matches_16 : decode cX10_matches 16 = .ok (.aload_n 0, 1) := by decide +kernel
theorem dX10_matches_17 : decode cX10_matches 17 = .ok (.invokevirtual 262, 3) := by decide +kernel
theorem dX10_matches_20 : decode cX10_matches 20 = .ok (.istore_n 2, 1) := by decide +kernel
theorem dX10_matches_21 : decode cX10_matches 21 = .ok (.iload_n 1, 1) := by decide +kernel
theorem dX10_matches_22 : decode cX10_matches 22 = .ok (.iconst (-1), 1) := by decide +kernel
theorem dX10_matches_23 : decode cX10_matches 23 = .ok (.if_icmp .ne 7, 3) := by decide +kernel
theorem dX10_matches_26 : decode cX10_matches 26 = .ok (.iload_n 2, 1) := by decide +kernel
theorem dX10_matches_27 : decode cX10_matches 27 = .ok (.goto 9, 3) := by decide +kernel
theorem dX10_matches_30 : decode cX10_matches 30 = .ok (.aload_n 0, 1) := by decide +kernel
theorem dX10_matches_31 : decode cX10_matches 31 = .ok (.getfield 51, 3) := by decide +kernel
theorem dX10_matches_34 : decode cX10_matches 34 = .ok (.iload_n 1, 1) := by decide +kernel
theorem dX10_matches_35 : decode cX10_matches 35 = .ok (.iaload, 1) := by decide +kernel
theorem dX10_matches_36 : decode cX10_matches 36 = .ok (.ireturn, 1) := by decide +kernel
theorem dX10_failing_0 : decode cX10_failing 0 = .ok (.aload_n 0, 1) := by decide +kernel
theorem dX10_failing_1 : decode cX10_failing 1 = .ok (.invokevirtual 242, 3) := by decide +kernel
theorem dX10_failing_4 : decode cX10_failing 4 = .ok (.aload_n 0, 1) := by decide +kernel
theorem dX10_failing_5 : decode cX10_failing 5 = .ok (.aload_n 0, 1) := by decide +kernel
theorem dX10_failing_6 : decode cX10_failing 6 = .ok (.getfield 19, 3) := by decide +kernel
theorem dX10_failing_9 : decode cX10_failing 9 = .ok (.invokevirtual 208, 3) := by decide +kernel
theorem dX10_failing_12 : decode cX10_failing 12 = .ok (.aload_n 0, 1) := by decide +kernel
theorem dX10_failing_13 : decode cX10_failing 13 = .ok (.getfield 19, 3) := by decide +kernel
theorem dX10_failing_16 : decode cX10_failing 16 = .ok (.bipush 52, 2) := by decide +kernel
theorem dX10_failing_18 : decode cX10_failing 18 = .ok (.iaload, 1) := by decide +kernel
theorem dX10_failing_19 : decode cX10_failing 19 = .ok (.aload_n 0, 1) := by decide +kernel
theorem dX10_failing_20 : decode cX10_failing 20 = .ok (.getfield 16, 3) := by decide +kernel
theorem dX10_failing_23 : decode cX10_failing 23 = .ok (.bipush 52, 2) := by decide +kernel
theorem dX10_failing_25 : decode cX10_failing 25 = .ok (.iaload, 1) := by decide +kernel
theorem dX10_failing_26 : decode cX10_failing 26 = .ok (.iconst (-1), 1) := by decide +kernel
theorem dX10_failing_27 : decode cX10_failing 27 = .ok (.ixor, 1) := by decide +kernel
theorem dX10_failing_28 : decode cX10_failing 28 = .ok (.iand, 1) := by decide +kernel
theorem dX10_failing_29 : decode cX10_failing 29 = .ok (.ireturn, 1) := by decide +kernel
theorem dX10_run_0 : decode cX10_run 0 = .ok (.iload_n 1, 1) := by decide +kernel
theorem dX10_run_1 : decode cX10_run 1 = .ok (.i2l, 1) := by decide +kernel
theorem dX10_run_2 : decode cX10_run 2 = .ok (.lconst 1, 1) := by decide +kernel
theorem dX10_run_3 : decode cX10_run 3 = .ok (.ldc2_w 203, 3) := by decide +kernel
theorem dX10_run_6 : decode cX10_run 6 = .ok (.invokestatic 65, 3) := by decide +kernel
theorem dX10_run_9 : decode cX10_run 9 = .ok (.ifCond .ne 6, 3) := by decide +kernel
theorem dX10_run_12 : decode cX10_run 12 = .ok (.ldc 80, 2) := by decide +kernel
theorem dX10_run_14 : decode cX10_run 14 = .ok (.ireturn, 1) := by decide +kernel
theorem dX10_run_15 : decode cX10_run 15 = .ok (.aload_n 0, 1) := by decide +kernel
theorem dX10_run_16 : decode cX10_run 16 = .ok (.invokevirtual 242, 3) := by decide +kernel
theorem dX10_run_19 : decode cX10_run 19 = .ok (.iconst 0, 1) := by decide +kernel
theorem dX10_run_20 : decode cX10_run 20 = .ok (.istore_n 2, 1) := by decide +kernel
theorem dX10_run_21 : decode cX10_run 21 = .ok (.iload_n 2, 1) := by decide +kernel
theorem dX10_run_22 : decode cX10_run 22 = .ok (.iload_n 1, 1) := by decide +kernel
theorem dX10_run_23 : decode cX10_run 23 = .ok (.if_icmp .ge 17, 3) := by decide +kernel
theorem dX10_run_26 : decode cX10_run 26 = .ok (.aload_n 0, 1) := by decide +kernel
theorem dX10_run_27 : decode cX10_run 27 = .ok (.aload_n 0, 1) := by decide +kernel
theorem dX10_run_28 : decode cX10_run 28 = .ok (.getfield 19, 3) := by decide +kernel
theorem dX10_run_31 : decode cX10_run 31 = .ok (.invokevirtual 208, 3) := by decide +kernel
theorem dX10_run_34 : decode cX10_run 34 = .ok (.iinc 2 1, 3) := by decide +kernel
theorem dX10_run_37 : decode cX10_run 37 = .ok (.goto (-16), 3) := by decide +kernel
theorem dX10_run_40 : decode cX10_run 40 = .ok (.aload_n 0, 1) := by decide +kernel
theorem dX10_run_41 : decode cX10_run 41 = .ok (.getfield 19, 3) := by decide +kernel
theorem dX10_run_44 : decode cX10_run 44 = .ok (.bipush 52, 2) := by decide +kernel
theorem dX10_run_46 : decode cX10_run 46 = .ok (.iaload, 1) := by decide +kernel
theorem dX10_run_47 : decode cX10_run 47 = .ok (.ireturn, 1) := by decide +kernel
theorem dX10_credit_0 : decode cX10_credit 0 = .ok (.aload_n 0, 1) := by decide +kernel
theorem dX10_credit_1 : decode cX10_credit 1 = .ok (.iload_n 1, 1) := by decide +kernel
theorem dX10_credit_2 : decode cX10_credit 2 = .ok (.invokevirtual 139, 3) := by decide +kernel
theorem dX10_credit_5 : decode cX10_credit 5 = .ok (.ifCond .eq 11, 3) := by decide +kernel
theorem dX10_credit_8 : decode cX10_credit 8 = .ok (.aload_n 0, 1) := by decide +kernel
theorem dX10_credit_9 : decode cX10_credit 9 = .ok (.iload_n 2, 1) := by decide +kernel
theorem dX10_credit_10 : decode cX10_credit 10 = .ok (.invokevirtual 172, 3) := by decide +kernel
theorem dX10_credit_13 : decode cX10_credit 13 = .ok (.ifCond .ne 6, 3) := by decide +kernel
theorem dX10_credit_16 : decode cX10_credit 16 = .ok (.ldc 175, 2) := by decide +kernel
theorem dX10_credit_18 : decode cX10_credit 18 = .ok (.ireturn, 1) := by decide +kernel
theorem dX10_credit_19 : decode cX10_credit 19 = .ok (.sipush 999, 3) := by decide +kernel
theorem dX10_credit_22 : decode cX10_credit 22 = .ok (.istore_n 3, 1) := by decide +kernel
theorem dX10_credit_23 : decode cX10_credit 23 = .ok (.iload_n 3, 1) := by decide +kernel
theorem dX10_credit_24 : decode cX10_credit 24 = .ok (.ifCond .lt 59, 3) := by decide +kernel
theorem dX10_credit_27 : decode cX10_credit 27 = .ok (.iload_n 3, 1) := by decide +kernel
theorem dX10_credit_28 : decode cX10_credit 28 = .ok (.ifCond .eq 13, 3) := by decide +kernel
theorem dX10_credit_31 : decode cX10_credit 31 = .ok (.aload_n 0, 1) := by decide +kernel
theorem dX10_credit_32 : decode cX10_credit 32 = .ok (.iload_n 1, 1) := by decide +kernel
theorem dX10_credit_33 : decode cX10_credit 33 = .ok (.iload_n 2, 1) := by decide +kernel
theorem dX10_credit_34 : decode cX10_credit 34 = .ok (.iload_n 3, 1) := by decide +kernel
theorem dX10_credit_35 : decode cX10_credit 35 = .ok (.invokevirtual 190, 3) := by decide +kernel
theorem dX10_credit_38 : decode cX10_credit 38 = .ok (.ifCond .eq 39, 3) := by decide +kernel
theorem dX10_credit_41 : decode cX10_credit 41 = .ok (.aload_n 0, 1) := by decide +kernel
theorem dX10_credit_42 : decode cX10_credit 42 = .ok (.invokevirtual 242, 3) := by decide +kernel
theorem dX10_credit_45 : decode cX10_credit 45 = .ok (.aload_n 0, 1) := by decide +kernel
theorem dX10_credit_46 : decode cX10_credit 46 = .ok (.getfield 19, 3) := by decide +kernel
theorem dX10_credit_49 : decode cX10_credit 49 = .ok (.iconst 0, 1) := by decide +kernel
theorem dX10_credit_50 : decode cX10_credit 50 = .ok (.iconst 4, 1) := by decide +kernel
theorem dX10_credit_51 : decode cX10_credit 51 = .ok (.iload_n 1, 1) := by decide +kernel
theorem dX10_credit_52 : decode cX10_credit 52 = .ok (.imul, 1) := by decide +kernel
theorem dX10_credit_53 : decode cX10_credit 53 = .ok (.iadd, 1) := by decide +kernel
theorem dX10_credit_54 : decode cX10_credit 54 = .ok (.iload_n 2, 1) := by decide +kernel
theorem dX10_credit_55 : decode cX10_credit 55 = .ok (.iadd, 1) := by decide +kernel
theorem dX10_credit_56 : decode cX10_credit 56 = .ok (.dup2, 1) := by decide +kernel
theorem dX10_credit_57 : decode cX10_credit 57 = .ok (.iaload, 1) := by decide +kernel
theorem dX10_credit_58 : decode cX10_credit 58 = .ok (.iload_n 3, 1) := by decide +kernel
theorem dX10_credit_59 : decode cX10_credit 59 = .ok (.iadd, 1) := by decide +kernel
theorem dX10_credit_60 : decode cX10_credit 60 = .ok (.iastore, 1) := by decide +kernel
theorem dX10_credit_61 : decode cX10_credit 61 = .ok (.aload_n 0, 1) := by decide +kernel
theorem dX10_credit_62 : decode cX10_credit 62 = .ok (.aload_n 0, 1) := by decide +kernel
theorem dX10_credit_63 : decode cX10_credit 63 = .ok (.getfield 19, 3) := by decide +kernel
theorem dX10_credit_66 : decode cX10_credit 66 = .ok (.iload_n 1, 1) := by decide +kernel
theorem dX10_credit_67 : decode cX10_credit 67 = .ok (.iload_n 2, 1) := by decide +kernel
theorem dX10_credit_68 : decode cX10_credit 68 = .ok (.invokevirtual 146, 3) := by decide +kernel
theorem dX10_credit_71 : decode cX10_credit 71 = .ok (.iconst 1, 1) := by decide +kernel
theorem dX10_credit_72 : decode cX10_credit 72 = .ok (.if_icmp .ne 5, 3) := by decide +kernel
theorem dX10_credit_75 : decode cX10_credit 75 = .ok (.iload_n 3, 1) := by decide +kernel
theorem dX10_credit_76 : decode cX10_credit 76 = .ok (.ireturn, 1) := by decide +kernel
theorem dX10_credit_77 : decode cX10_credit 77 = .ok (.iinc 3 (-1), 3) := by decide +kernel
theorem dX10_credit_80 : decode cX10_credit 80 = .ok (.goto (-57), 3) := by decide +kernel
theorem dX10_credit_83 : decode cX10_credit 83 = .ok (.iconst (-1), 1) := by decide +kernel
theorem dX10_credit_84 : decode cX10_credit 84 = .ok (.ireturn, 1) := by decide +kernel
theorem dX10_rumours_0 : decode cX10_rumours 0 = .ok (.iload_n 1, 1) := by decide +kernel
theorem dX10_rumours_1 : decode cX10_rumours 1 = .ok (.i2l, 1) := by decide +kernel
theorem dX10_rumours_2 : decode cX10_rumours 2 = .ok (.lconst 0, 1) := by decide +kernel
theorem dX10_rumours_3 : decode cX10_rumours 3 = .ok (.ldc2_w 265, 3) := by decide +kernel
theorem dX10_rumours_6 : decode cX10_rumours 6 = .ok (.invokestatic 65, 3) := by decide +kernel
theorem dX10_rumours_9 : decode cX10_rumours 9 = .ok (.ifCond .eq 15, 3) := by decide +kernel
theorem dX10_rumours_12 : decode cX10_rumours 12 = .ok (.iload_n 2, 1) := by decide +kernel
theorem dX10_rumours_13 : decode cX10_rumours 13 = .ok (.i2l, 1) := by decide +kernel
theorem dX10_rumours_14 : decode cX10_rumours 14 = .ok (.lconst 0, 1) := by decide +kernel
theorem dX10_rumours_15 : decode cX10_rumours 15 = .ok (.ldc2_w 267, 3) := by decide +kernel
theorem dX10_rumours_18 : decode cX10_rumours 18 = .ok (.invokestatic 65, 3) := by decide +kernel
theorem dX10_rumours_21 : decode cX10_rumours 21 = .ok (.ifCond .ne 6, 3) := by decide +kernel
theorem dX10_rumours_24 : decode cX10_rumours 24 = .ok (.ldc 80, 2) := by decide +kernel
theorem dX10_rumours_26 : decode cX10_rumours 26 = .ok (.ireturn, 1) := by decide +kernel
theorem dX10_rumours_27 : decode cX10_rumours 27 = .ok (.ldc2_w 269, 3) := by decide +kernel
theorem dX10_rumours_30 : decode cX10_rumours 30 = .ok (.lstore_n 3, 1) := by decide +kernel
theorem dX10_rumours_31 : decode cX10_rumours 31 = .ok (.iconst 0, 1) := by decide +kernel
theorem dX10_rumours_32 : decode cX10_rumours 32 = .ok (.istore 5, 2) := by decide +kernel
theorem dX10_rumours_34 : decode cX10_rumours 34 = .ok (.iload 5, 2) := by decide +kernel
theorem dX10_rumours_36 : decode cX10_rumours 36 = .ok (.iload_n 1, 1) := by decide +kernel
theorem dX10_rumours_37 : decode cX10_rumours 37 = .ok (.if_icmp .ge 21, 3) := by decide +kernel
theorem dX10_rumours_40 : decode cX10_rumours 40 = .ok (.lload_n 3, 1) := by decide +kernel
theorem dX10_rumours_41 : decode cX10_rumours 41 = .ok (.bipush 100, 2) := by decide +kernel
theorem dX10_rumours_43 : decode cX10_rumours 43 = .ok (.iload_n 2, 1) := by decide +kernel
theorem dX10_rumours_44 : decode cX10_rumours 44 = .ok (.isub, 1) := by decide +kernel
theorem dX10_rumours_45 : decode cX10_rumours 45 = .ok (.i2l, 1) := by decide +kernel
theorem dX10_rumours_46 : decode cX10_rumours 46 = .ok (.lmul, 1) := by decide +kernel
theorem dX10_rumours_47 : decode cX10_rumours 47 = .ok (.ldc2_w 267, 3) := by decide +kernel
theorem dX10_rumours_50 : decode cX10_rumours 50 = .ok (.ldiv, 1) := by decide +kernel
theorem dX10_rumours_51 : decode cX10_rumours 51 = .ok (.lstore_n 3, 1) := by decide +kernel
theorem dX10_rumours_52 : decode cX10_rumours 52 = .ok (.iinc 5 1, 3) := by decide +kernel
theorem dX10_rumours_55 : decode cX10_rumours 55 = .ok (.goto (-21), 3) := by decide +kernel
theorem dX10_rumours_58 : decode cX10_rumours 58 = .ok (.lload_n 3, 1) := by decide +kernel
theorem dX10_rumours_59 : decode cX10_rumours 59 = .ok (.l2i, 1) := by decide +kernel
theorem dX10_rumours_60 : decode cX10_rumours 60 = .ok (.ireturn, 1) := by decide +kernel
theorem dX10_card_0 : decode cX10_card 0 = .ok (.aload_n 0, 1) := by decide +kernel
theorem dX10_card_1 : decode cX10_card 1 = .ok (.iload_n 1, 1) := by decide +kernel
theorem dX10_card_2 : decode cX10_card 2 = .ok (.invokevirtual 139, 3) := by decide +kernel
theorem dX10_card_5 : decode cX10_card 5 = .ok (.ifCond .eq 11, 3) := by decide +kernel
theorem dX10_card_8 : decode cX10_card 8 = .ok (.aload_n 0, 1) := by decide +kernel
theorem dX10_card_9 : decode cX10_card 9 = .ok (.iload_n 2, 1) := by decide +kernel
theorem dX10_card_10 : decode cX10_card 10 = .ok (.invokevirtual 172, 3) := by decide +kernel
theorem dX10_card_13 : decode cX10_card 13 = .ok (.ifCond .ne 6, 3) := by decide +kernel
theorem dX10_card_16 : decode cX10_card 16 = .ok (.ldc 175, 2) := by decide +kernel
theorem dX10_card_18 : decode cX10_card 18 = .ok (.ireturn, 1) := by decide +kernel
theorem dX10_card_19 : decode cX10_card 19 = .ok (.iload_n 3, 1) := by decide +kernel
theorem dX10_card_20 : decode cX10_card 20 = .ok (.i2l, 1) := by decide +kernel
theorem dX10_card_21 : decode cX10_card 21 = .ok (.lconst 0, 1) := by decide +kernel
theorem dX10_card_22 : decode cX10_card 22 = .ok (.ldc2_w 271, 3) := by decide +kernel
theorem dX10_card_25 : decode cX10_card 25 = .ok (.invokestatic 65, 3) := by decide +kernel
theorem dX10_card_28 : decode cX10_card 28 = .ok (.ifCond .ne 6, 3) := by decide +kernel
theorem dX10_card_31 : decode cX10_card 31 = .ok (.ldc 80, 2) := by decide +kernel
theorem dX10_card_33 : decode cX10_card 33 = .ok (.ireturn, 1) := by decide +kernel
theorem dX10_card_34 : decode cX10_card 34 = .ok (.aload_n 0, 1) := by decide +kernel
theorem dX10_card_35 : decode cX10_card 35 = .ok (.getfield 72, 3) := by decide +kernel
theorem dX10_card_38 : decode cX10_card 38 = .ok (.bipush 6, 2) := by decide +kernel
theorem dX10_card_40 : decode cX10_card 40 = .ok (.if_icmp .ne 6, 3) := by decide +kernel
theorem dX10_card_43 : decode cX10_card 43 = .ok (.ldc 84, 2) := by decide +kernel
theorem dX10_card_45 : decode cX10_card 45 = .ok (.ireturn, 1) := by decide +kernel
theorem dX10_card_46 : decode cX10_card 46 = .ok (.iconst 4, 1) := by decide +kernel
theorem dX10_card_47 : decode cX10_card 47 = .ok (.aload_n 0, 1) := by decide +kernel
theorem dX10_card_48 : decode cX10_card 48 = .ok (.getfield 72, 3) := by decide +kernel
theorem dX10_card_51 : decode cX10_card 51 = .ok (.imul, 1) := by decide +kernel
theorem dX10_card_52 : decode cX10_card 52 = .ok (.istore 5, 2) := by decide +kernel
theorem dX10_card_54 : decode cX10_card 54 = .ok (.aload_n 0, 1) := by decide +kernel
theorem dX10_card_55 : decode cX10_card 55 = .ok (.getfield 39, 3) := by decide +kernel
theorem dX10_card_58 : decode cX10_card 58 = .ok (.iload 5, 2) := by decide +kernel
theorem dX10_card_60 : decode cX10_card 60 = .ok (.iload_n 1, 1) := by decide +kernel
theorem dX10_card_61 : decode cX10_card 61 = .ok (.iastore, 1) := by decide +kernel
theorem dX10_card_62 : decode cX10_card 62 = .ok (.aload_n 0, 1) := by decide +kernel
theorem dX10_card_63 : decode cX10_card 63 = .ok (.getfield 39, 3) := by decide +kernel
theorem dX10_card_66 : decode cX10_card 66 = .ok (.iload 5, 2) := by decide +kernel
theorem dX10_card_68 : decode cX10_card 68 = .ok (.iconst 1, 1) := by decide +kernel
theorem dX10_card_69 : decode cX10_card 69 = .ok (.iadd, 1) := by decide +kernel
theorem dX10_card_70 : decode cX10_card 70 = .ok (.iload_n 2, 1) := by decide +kernel
theorem dX10_card_71 : decode cX10_card 71 = .ok (.iastore, 1) := by decide +kernel
theorem dX10_card_72 : decode cX10_card 72 = .ok (.aload_n 0, 1) := by decide +kernel
theorem dX10_card_73 : decode cX10_card 73 = .ok (.getfield 39, 3) := by decide +kernel
theorem dX10_card_76 : decode cX10_card 76 = .ok (.iload 5, 2) := by decide +kernel
theorem dX10_card_78 : decode cX10_card 78 = .ok (.iconst 2, 1) := by decide +kernel
theorem dX10_card_79 : decode cX10_card 79 = .ok (.iadd, 1) := by decide +kernel
theorem dX10_card_80 : decode cX10_card 80 = .ok (.iload_n 3, 1) := by decide +kernel
theorem dX10_card_81 : decode cX10_card 81 = .ok (.iastore, 1) := by decide +kernel
theorem dX10_card_82 : decode cX10_card 82 = .ok (.aload_n 0, 1) := by decide +kernel
theorem dX10_card_83 : decode cX10_card 83 = .ok (.getfield 39, 3) := by decide +kernel
theorem dX10_card_86 : decode cX10_card 86 = .ok (.iload 5, 2) := by decide +kernel
theorem dX10_card_88 : decode cX10_card 88 = .ok (.iconst 3, 1) := by decide +kernel
theorem dX10_card_89 : decode cX10_card 89 = .ok (.iadd, 1) := by decide +kernel
theorem dX10_card_90 : decode cX10_card 90 = .ok (.iload 4, 2) := by decide +kernel
theorem dX10_card_92 : decode cX10_card 92 = .ok (.ifCond .eq 7, 3) := by decide +kernel
theorem dX10_card_95 : decode cX10_card 95 = .ok (.iconst 1, 1) := by decide +kernel
theorem dX10_card_96 : decode cX10_card 96 = .ok (.goto 4, 3) := by decide +kernel
theorem dX10_card_99 : decode cX10_card 99 = .ok (.iconst 0, 1) := by decide +kernel
theorem dX10_card_100 : decode cX10_card 100 = .ok (.iastore, 1) := by decide +kernel
theorem dX10_card_101 : decode cX10_card 101 = .ok (.aload_n 0, 1) := by decide +kernel
theorem dX10_card_102 : decode cX10_card 102 = .ok (.dup, 1) := by decide +kernel
theorem dX10_card_103 : decode cX10_card 103 = .ok (.getfield 72, 3) := by decide +kernel
theorem dX10_card_106 : decode cX10_card 106 = .ok (.iconst 1, 1) := by decide +kernel
theorem dX10_card_107 : decode cX10_card 107 = .ok (.iadd, 1) := by decide +kernel
theorem dX10_card_108 : decode cX10_card 108 = .ok (.putfield 72, 3) := by decide +kernel
theorem dX10_card_111 : decode cX10_card 111 = .ok (.aload_n 0, 1) := by decide +kernel
theorem dX10_card_112 : decode cX10_card 112 = .ok (.getfield 72, 3) := by decide +kernel
theorem dX10_card_115 : decode cX10_card 115 = .ok (.ireturn, 1) := by decide +kernel
theorem dX10_isCivil_0 : decode cX10_isCivil 0 = .ok (.iload_n 2, 1) := by decide +kernel
theorem dX10_isCivil_1 : decode cX10_isCivil 1 = .ok (.istore 4, 2) := by decide +kernel
theorem dX10_isCivil_3 : decode cX10_isCivil 3 = .ok (.iconst 0, 1) := by decide +kernel
theorem dX10_isCivil_4 : decode cX10_isCivil 4 = .ok (.istore 5, 2) := by decide +kernel
theorem dX10_isCivil_6 : decode cX10_isCivil 6 = .ok (.iload 5, 2) := by decide +kernel
theorem dX10_isCivil_8 : decode cX10_isCivil 8 = .ok (.iload_n 3, 1) := by decide +kernel
theorem dX10_isCivil_9 : decode cX10_isCivil 9 = .ok (.if_icmp .ge 17, 3) := by decide +kernel
theorem dX10_isCivil_12 : decode cX10_isCivil 12 = .ok (.aload_n 0, 1) := by decide +kernel
theorem dX10_isCivil_13 : decode cX10_isCivil 13 = .ok (.iload 4, 2) := by decide +kernel
theorem dX10_isCivil_15 : decode cX10_isCivil 15 = .ok (.invokevirtual 154, 3) := by decide +kernel
theorem dX10_isCivil_18 : decode cX10_isCivil 18 = .ok (.istore 4, 2) := by decide +kernel
theorem dX10_isCivil_20 : decode cX10_isCivil 20 = .ok (.iinc 5 1, 3) := by decide +kernel
theorem dX10_isCivil_23 : decode cX10_isCivil 23 = .ok (.goto (-17), 3) := by decide +kernel
theorem dX10_isCivil_26 : decode cX10_isCivil 26 = .ok (.iload 4, 2) := by decide +kernel
theorem dX10_isCivil_28 : decode cX10_isCivil 28 = .ok (.i2l, 1) := by decide +kernel
theorem dX10_isCivil_29 : decode cX10_isCivil 29 = .ok (.aload_n 0, 1) := by decide +kernel
theorem dX10_isCivil_30 : decode cX10_isCivil 30 = .ok (.getfield 7, 3) := by decide +kernel
theorem dX10_isCivil_33 : decode cX10_isCivil 33 = .ok (.bipush 9, 2) := by decide +kernel
theorem dX10_isCivil_35 : decode cX10_isCivil 35 = .ok (.iload_n 1, 1) := by decide +kernel
theorem dX10_isCivil_36 : decode cX10_isCivil 36 = .ok (.iadd, 1) := by decide +kernel
