theorem d_R_init_0 : decode b_R_init 0 = .ok (.aload_n 0, 1) := by decide +kernel
theorem d_R_init_1 : decode b_R_init 1 = .ok (.invokespecial 1, 3) := by decide +kernel
theorem d_R_init_4 : decode b_R_init 4 = .ok (.aload_n 0, 1) := by decide +kernel
theorem d_R_init_5 : decode b_R_init 5 = .ok (.bipush 13, 2) := by decide +kernel
theorem d_R_init_7 : decode b_R_init 7 = .ok (.newarray .boolean, 2) := by decide +kernel
theorem d_R_init_9 : decode b_R_init 9 = .ok (.putfield 7, 3) := by decide +kernel
theorem d_R_init_12 : decode b_R_init 12 = .ok (.aload_n 0, 1) := by decide +kernel
theorem d_R_init_13 : decode b_R_init 13 = .ok (.bipush 13, 2) := by decide +kernel
theorem d_R_init_15 : decode b_R_init 15 = .ok (.newarray .boolean, 2) := by decide +kernel
theorem d_R_init_17 : decode b_R_init 17 = .ok (.putfield 13, 3) := by decide +kernel
theorem d_R_init_20 : decode b_R_init 20 = .ok (.aload_n 0, 1) := by decide +kernel
theorem d_R_init_21 : decode b_R_init 21 = .ok (.bipush 13, 2) := by decide +kernel
theorem d_R_init_23 : decode b_R_init 23 = .ok (.newarray .boolean, 2) := by decide +kernel
theorem d_R_init_25 : decode b_R_init 25 = .ok (.putfield 16, 3) := by decide +kernel
theorem d_R_init_28 : decode b_R_init 28 = .ok (.aload_n 0, 1) := by decide +kernel
theorem d_R_init_29 : decode b_R_init 29 = .ok (.bipush 13, 2) := by decide +kernel
theorem d_R_init_31 : decode b_R_init 31 = .ok (.newarray .int, 2) := by decide +kernel
theorem d_R_init_33 : decode b_R_init 33 = .ok (.putfield 19, 3) := by decide +kernel
theorem d_R_init_36 : decode b_R_init 36 = .ok (.aload_n 0, 1) := by decide +kernel
theorem d_R_init_37 : decode b_R_init 37 = .ok (.bipush 13, 2) := by decide +kernel
theorem d_R_init_39 : decode b_R_init 39 = .ok (.newarray .int, 2) := by decide +kernel
theorem d_R_init_41 : decode b_R_init 41 = .ok (.putfield 23, 3) := by decide +kernel
theorem d_R_init_44 : decode b_R_init 44 = .ok (.aload_n 0, 1) := by decide +kernel
theorem d_R_init_45 : decode b_R_init 45 = .ok (.bipush 13, 2) := by decide +kernel
theorem d_R_init_47 : decode b_R_init 47 = .ok (.newarray .int, 2) := by decide +kernel
theorem d_R_init_49 : decode b_R_init 49 = .ok (.putfield 26, 3) := by decide +kernel
theorem d_R_init_52 : decode b_R_init 52 = .ok (.aload_n 0, 1) := by decide +kernel
theorem d_R_init_53 : decode b_R_init 53 = .ok (.bipush 52, 2) := by decide +kernel
theorem d_R_init_55 : decode b_R_init 55 = .ok (.newarray .int, 2) := by decide +kernel
theorem d_R_init_57 : decode b_R_init 57 = .ok (.putfield 29, 3) := by decide +kernel
theorem d_R_init_60 : decode b_R_init 60 = .ok (.aload_n 0, 1) := by decide +kernel
theorem d_R_init_61 : decode b_R_init 61 = .ok (.bipush 13, 2) := by decide +kernel
theorem d_R_init_63 : decode b_R_init 63 = .ok (.newarray .int, 2) := by decide +kernel
theorem d_R_init_65 : decode b_R_init 65 = .ok (.putfield 32, 3) := by decide +kernel
theorem d_R_init_68 : decode b_R_init 68 = .ok (.aload_n 0, 1) := by decide +kernel
theorem d_R_init_69 : decode b_R_init 69 = .ok (.bipush 52, 2) := by decide +kernel
theorem d_R_init_71 : decode b_R_init 71 = .ok (.newarray .int, 2) := by decide +kernel
theorem d_R_init_73 : decode b_R_init 73 = .ok (.putfield 35, 3) := by decide +kernel
theorem d_R_init_76 : decode b_R_init 76 = .ok (.aload_n 0, 1) := by decide +kernel
theorem d_R_init_77 : decode b_R_init 77 = .ok (.bipush 52, 2) := by decide +kernel
theorem d_R_init_79 : decode b_R_init 79 = .ok (.newarray .int, 2) := by decide +kernel
theorem d_R_init_81 : decode b_R_init 81 = .ok (.putfield 38, 3) := by decide +kernel
theorem d_R_init_84 : decode b_R_init 84 = .ok (.aload_n 0, 1) := by decide +kernel
theorem d_R_init_85 : decode b_R_init 85 = .ok (.bipush 13, 2) := by decide +kernel
theorem d_R_init_87 : decode b_R_init 87 = .ok (.newarray .int, 2) := by decide +kernel
theorem d_R_init_89 : decode b_R_init 89 = .ok (.putfield 41, 3) := by decide +kernel
theorem d_R_init_92 : decode b_R_init 92 = .ok (.aload_n 0, 1) := by decide +kernel
theorem d_R_init_93 : decode b_R_init 93 = .ok (.sipush 169, 3) := by decide +kernel
theorem d_R_init_96 : decode b_R_init 96 = .ok (.newarray .boolean, 2) := by decide +kernel
theorem d_R_init_98 : decode b_R_init 98 = .ok (.putfield 44, 3) := by decide +kernel
theorem d_R_init_101 : decode b_R_init 101 = .ok (.aload_n 0, 1) := by decide +kernel
theorem d_R_init_102 : decode b_R_init 102 = .ok (.bipush 80, 2) := by decide +kernel
theorem d_R_init_104 : decode b_R_init 104 = .ok (.newarray .int, 2) := by decide +kernel
theorem d_R_init_106 : decode b_R_init 106 = .ok (.putfield 47, 3) := by decide +kernel
theorem d_R_init_109 : decode b_R_init 109 = .ok (.iconst 0, 1) := by decide +kernel
theorem d_R_init_110 : decode b_R_init 110 = .ok (.istore_n 1, 1) := by decide +kernel
theorem d_R_init_111 : decode b_R_init 111 = .ok (.iload_n 1, 1) := by decide +kernel
theorem d_R_init_112 : decode b_R_init 112 = .ok (.bipush 52, 2) := by decide +kernel
theorem d_R_init_114 : decode b_R_init 114 = .ok (.if_icmp .ge 23, 3) := by decide +kernel
theorem d_R_init_117 : decode b_R_init 117 = .ok (.aload_n 0, 1) := by decide +kernel
theorem d_R_init_118 : decode b_R_init 118 = .ok (.getfield 35, 3) := by decide +kernel
theorem d_R_init_121 : decode b_R_init 121 = .ok (.iload_n 1, 1) := by decide +kernel
theorem d_R_init_122 : decode b_R_init 122 = .ok (.iconst (-1), 1) := by decide +kernel
theorem d_R_init_123 : decode b_R_init 123 = .ok (.iastore, 1) := by decide +kernel
theorem d_R_init_124 : decode b_R_init 124 = .ok (.aload_n 0, 1) := by decide +kernel
theorem d_R_init_125 : decode b_R_init 125 = .ok (.getfield 38, 3) := by decide +kernel
theorem d_R_init_128 : decode b_R_init 128 = .ok (.iload_n 1, 1) := by decide +kernel
theorem d_R_init_129 : decode b_R_init 129 = .ok (.iconst (-1), 1) := by decide +kernel
theorem d_R_init_130 : decode b_R_init 130 = .ok (.iastore, 1) := by decide +kernel
theorem d_R_init_131 : decode b_R_init 131 = .ok (.iinc 1 1, 3) := by decide +kernel
theorem d_R_init_134 : decode b_R_init 134 = .ok (.goto (-23), 3) := by decide +kernel
theorem d_R_init_137 : decode b_R_init 137 = .ok (.return_, 1) := by decide +kernel
theorem d_R_in_0 : decode b_R_in 0 = .ok (.iload_n 0, 1) := by decide +kernel
theorem d_R_in_1 : decode b_R_in 1 = .ok (.iload_n 1, 1) := by decide +kernel
theorem d_R_in_2 : decode b_R_in 2 = .ok (.if_icmp .lt 12, 3) := by decide +kernel
theorem d_R_in_5 : decode b_R_in 5 = .ok (.iload_n 0, 1) := by decide +kernel
theorem d_R_in_6 : decode b_R_in 6 = .ok (.iload_n 2, 1) := by decide +kernel
theorem d_R_in_7 : decode b_R_in 7 = .ok (.if_icmp .gt 7, 3) := by decide +kernel
theorem d_R_in_10 : decode b_R_in 10 = .ok (.iconst 1, 1) := by decide +kernel
theorem d_R_in_11 : decode b_R_in 11 = .ok (.goto 4, 3) := by decide +kernel
theorem d_R_in_14 : decode b_R_in 14 = .ok (.iconst 0, 1) := by decide +kernel
theorem d_R_in_15 : decode b_R_in 15 = .ok (.ireturn, 1) := by decide +kernel
theorem d_R_there_0 : decode b_R_there 0 = .ok (.iload_n 1, 1) := by decide +kernel
theorem d_R_there_1 : decode b_R_there 1 = .ok (.iconst 1, 1) := by decide +kernel
theorem d_R_there_2 : decode b_R_there 2 = .ok (.aload_n 0, 1) := by decide +kernel
theorem d_R_there_3 : decode b_R_there 3 = .ok (.getfield 50, 3) := by decide +kernel
theorem d_R_there_6 : decode b_R_there 6 = .ok (.invokestatic 54, 3) := by decide +kernel
theorem d_R_there_9 : decode b_R_there 9 = .ok (.ireturn, 1) := by decide +kernel
theorem d_R_tell_0 : decode b_R_tell 0 = .ok (.aload_n 0, 1) := by decide +kernel
theorem d_R_tell_1 : decode b_R_tell 1 = .ok (.dup, 1) := by decide +kernel
theorem d_R_tell_2 : decode b_R_tell 2 = .ok (.getfield 50, 3) := by decide +kernel
theorem d_R_tell_5 : decode b_R_tell 5 = .ok (.iconst 1, 1) := by decide +kernel
theorem d_R_tell_6 : decode b_R_tell 6 = .ok (.iadd, 1) := by decide +kernel
theorem d_R_tell_7 : decode b_R_tell 7 = .ok (.putfield 50, 3) := by decide +kernel
theorem d_R_tell_10 : decode b_R_tell 10 = .ok (.aload_n 0, 1) := by decide +kernel
theorem d_R_tell_11 : decode b_R_tell 11 = .ok (.getfield 19, 3) := by decide +kernel
theorem d_R_tell_14 : decode b_R_tell 14 = .ok (.aload_n 0, 1) := by decide +kernel
theorem d_R_tell_15 : decode b_R_tell 15 = .ok (.getfield 50, 3) := by decide +kernel
theorem d_R_tell_18 : decode b_R_tell 18 = .ok (.iload_n 1, 1) := by decide +kernel
theorem d_R_tell_19 : decode b_R_tell 19 = .ok (.iastore, 1) := by decide +kernel
theorem d_R_tell_20 : decode b_R_tell 20 = .ok (.aload_n 0, 1) := by decide +kernel
theorem d_R_tell_21 : decode b_R_tell 21 = .ok (.getfield 13, 3) := by decide +kernel
theorem d_R_tell_24 : decode b_R_tell 24 = .ok (.aload_n 0, 1) := by decide +kernel
theorem d_R_tell_25 : decode b_R_tell 25 = .ok (.getfield 50, 3) := by decide +kernel
theorem d_R_tell_28 : decode b_R_tell 28 = .ok (.iload_n 2, 1) := by decide +kernel
theorem d_R_tell_29 : decode b_R_tell 29 = .ok (.bastore, 1) := by decide +kernel
theorem d_R_tell_30 : decode b_R_tell 30 = .ok (.aload_n 0, 1) := by decide +kernel
theorem d_R_tell_31 : decode b_R_tell 31 = .ok (.getfield 26, 3) := by decide +kernel
theorem d_R_tell_34 : decode b_R_tell 34 = .ok (.aload_n 0, 1) := by decide +kernel
theorem d_R_tell_35 : decode b_R_tell 35 = .ok (.getfield 50, 3) := by decide +kernel
theorem d_R_tell_38 : decode b_R_tell 38 = .ok (.aload_n 0, 1) := by decide +kernel
theorem d_R_tell_39 : decode b_R_tell 39 = .ok (.getfield 50, 3) := by decide +kernel
theorem d_R_tell_42 : decode b_R_tell 42 = .ok (.iastore, 1) := by decide +kernel
theorem d_R_tell_43 : decode b_R_tell 43 = .ok (.aload_n 0, 1) := by decide +kernel
theorem d_R_tell_44 : decode b_R_tell 44 = .ok (.getfield 50, 3) := by decide +kernel
theorem d_R_tell_47 : decode b_R_tell 47 = .ok (.ireturn, 1) := by decide +kernel
theorem d_R_tellClass_0 : decode b_R_tellClass 0 = .ok (.iload_n 2, 1) := by decide +kernel
theorem d_R_tellClass_1 : decode b_R_tellClass 1 = .ok (.iconst 0, 1) := by decide +kernel
theorem d_R_tellClass_2 : decode b_R_tellClass 2 = .ok (.iconst 2, 1) := by decide +kernel
theorem d_R_tellClass_3 : decode b_R_tellClass 3 = .ok (.invokestatic 54, 3) := by decide +kernel
theorem d_R_tellClass_6 : decode b_R_tellClass 6 = .ok (.ifCond .eq 33, 3) := by decide +kernel
theorem d_R_tellClass_9 : decode b_R_tellClass 9 = .ok (.iload_n 1, 1) := by decide +kernel
theorem d_R_tellClass_10 : decode b_R_tellClass 10 = .ok (.ifCond .eq 31, 3) := by decide +kernel
theorem d_R_tellClass_13 : decode b_R_tellClass 13 = .ok (.aload_n 0, 1) := by decide +kernel
theorem d_R_tellClass_14 : decode b_R_tellClass 14 = .ok (.iload_n 1, 1) := by decide +kernel
theorem d_R_tellClass_15 : decode b_R_tellClass 15 = .ok (.invokevirtual 58, 3) := by decide +kernel
theorem d_R_tellClass_18 : decode b_R_tellClass 18 = .ok (.ifCond .eq 21, 3) := by decide +kernel
theorem d_R_tellClass_21 : decode b_R_tellClass 21 = .ok (.aload_n 0, 1) := by decide +kernel
theorem d_R_tellClass_22 : decode b_R_tellClass 22 = .ok (.getfield 7, 3) := by decide +kernel
theorem d_R_tellClass_25 : decode b_R_tellClass 25 = .ok (.iload_n 1, 1) := by decide +kernel
theorem d_R_tellClass_26 : decode b_R_tellClass 26 = .ok (.baload, 1) := by decide +kernel
theorem d_R_tellClass_27 : decode b_R_tellClass 27 = .ok (.ifCond .ne 12, 3) := by decide +kernel
theorem d_R_tellClass_30 : decode b_R_tellClass 30 = .ok (.aload_n 0, 1) := by decide +kernel
theorem d_R_tellClass_31 : decode b_R_tellClass 31 = .ok (.getfield 16, 3) := by decide +kernel
theorem d_R_tellClass_34 : decode b_R_tellClass 34 = .ok (.iload_n 1, 1) := by decide +kernel
theorem d_R_tellClass_35 : decode b_R_tellClass 35 = .ok (.baload, 1) := by decide +kernel
theorem d_R_tellClass_36 : decode b_R_tellClass 36 = .ok (.ifCond .eq 5, 3) := by decide +kernel
theorem d_R_tellClass_39 : decode b_R_tellClass 39 = .ok (.iconst (-1), 1) := by decide +kernel
theorem d_R_tellClass_40 : decode b_R_tellClass 40 = .ok (.ireturn, 1) := by decide +kernel
theorem d_R_tellClass_41 : decode b_R_tellClass 41 = .ok (.aload_n 0, 1) := by decide +kernel
theorem d_R_tellClass_42 : decode b_R_tellClass 42 = .ok (.getfield 50, 3) := by decide +kernel
theorem d_R_tellClass_45 : decode b_R_tellClass 45 = .ok (.bipush 12, 2) := by decide +kernel
theorem d_R_tellClass_47 : decode b_R_tellClass 47 = .ok (.if_icmp .ne 6, 3) := by decide +kernel
theorem d_R_tellClass_50 : decode b_R_tellClass 50 = .ok (.bipush (-2), 2) := by decide +kernel
theorem d_R_tellClass_52 : decode b_R_tellClass 52 = .ok (.ireturn, 1) := by decide +kernel
theorem d_R_tellClass_53 : decode b_R_tellClass 53 = .ok (.aload_n 0, 1) := by decide +kernel
theorem d_R_tellClass_54 : decode b_R_tellClass 54 = .ok (.iload_n 2, 1) := by decide +kernel
theorem d_R_tellClass_55 : decode b_R_tellClass 55 = .ok (.iload_n 3, 1) := by decide +kernel
theorem d_R_tellClass_56 : decode b_R_tellClass 56 = .ok (.invokevirtual 62, 3) := by decide +kernel
theorem d_R_tellClass_59 : decode b_R_tellClass 59 = .ok (.istore 5, 2) := by decide +kernel
theorem d_R_tellClass_61 : decode b_R_tellClass 61 = .ok (.aload_n 0, 1) := by decide +kernel
theorem d_R_tellClass_62 : decode b_R_tellClass 62 = .ok (.getfield 23, 3) := by decide +kernel
theorem d_R_tellClass_65 : decode b_R_tellClass 65 = .ok (.iload 5, 2) := by decide +kernel
theorem d_R_tellClass_67 : decode b_R_tellClass 67 = .ok (.iload_n 1, 1) := by decide +kernel
theorem d_R_tellClass_68 : decode b_R_tellClass 68 = .ok (.iastore, 1) := by decide +kernel
theorem d_R_tellClass_69 : decode b_R_tellClass 69 = .ok (.aload_n 0, 1) := by decide +kernel
theorem d_R_tellClass_70 : decode b_R_tellClass 70 = .ok (.getfield 16, 3) := by decide +kernel
theorem d_R_tellClass_73 : decode b_R_tellClass 73 = .ok (.iload 5, 2) := by decide +kernel
theorem d_R_tellClass_75 : decode b_R_tellClass 75 = .ok (.iload 4, 2) := by decide +kernel
theorem d_R_tellClass_77 : decode b_R_tellClass 77 = .ok (.bastore, 1) := by decide +kernel
theorem d_R_tellClass_78 : decode b_R_tellClass 78 = .ok (.iload 5, 2) := by decide +kernel
theorem d_R_tellClass_80 : decode b_R_tellClass 80 = .ok (.ireturn, 1) := by decide +kernel
theorem d_R_tellInterface_0 : decode b_R_tellInterface 0 = .ok (.iload_n 1, 1) := by decide +kernel
theorem d_R_tellInterface_1 : decode b_R_tellInterface 1 = .ok (.iconst 0, 1) := by decide +kernel
theorem d_R_tellInterface_2 : decode b_R_tellInterface 2 = .ok (.iconst 2, 1) := by decide +kernel
theorem d_R_tellInterface_3 : decode b_R_tellInterface 3 = .ok (.invokestatic 54, 3) := by decide +kernel
theorem d_R_tellInterface_6 : decode b_R_tellInterface 6 = .ok (.ifCond .ne 5, 3) := by decide +kernel
theorem d_R_tellInterface_9 : decode b_R_tellInterface 9 = .ok (.iconst (-1), 1) := by decide +kernel
theorem d_R_tellInterface_10 : decode b_R_tellInterface 10 = .ok (.ireturn, 1) := by decide +kernel
theorem d_R_tellInterface_11 : decode b_R_tellInterface 11 = .ok (.aload_n 0, 1) := by decide +kernel
theorem d_R_tellInterface_12 : decode b_R_tellInterface 12 = .ok (.getfield 50, 3) := by decide +kernel
theorem d_R_tellInterface_15 : decode b_R_tellInterface 15 = .ok (.bipush 12, 2) := by decide +kernel
theorem d_R_tellInterface_17 : decode b_R_tellInterface 17 = .ok (.if_icmp .ne 6, 3) := by decide +kernel
theorem d_R_tellInterface_20 : decode b_R_tellInterface 20 = .ok (.bipush (-2), 2) := by decide +kernel
theorem d_R_tellInterface_22 : decode b_R_tellInterface 22 = .ok (.ireturn, 1) := by decide +kernel
theorem d_R_tellInterface_23 : decode b_R_tellInterface 23 = .ok (.aload_n 0, 1) := by decide +kernel
theorem d_R_tellInterface_24 : decode b_R_tellInterface 24 = .ok (.iload_n 1, 1) := by decide +kernel
theorem d_R_tellInterface_25 : decode b_R_tellInterface 25 = .ok (.iload_n 2, 1) := by decide +kernel
theorem d_R_tellInterface_26 : decode b_R_tellInterface 26 = .ok (.invokevirtual 62, 3) := by decide +kernel
theorem d_R_tellInterface_29 : decode b_R_tellInterface 29 = .ok (.istore_n 3, 1) := by decide +kernel
theorem d_R_tellInterface_30 : decode b_R_tellInterface 30 = .ok (.aload_n 0, 1) := by decide +kernel
theorem d_R_tellInterface_31 : decode b_R_tellInterface 31 = .ok (.getfield 7, 3) := by decide +kernel
theorem d_R_tellInterface_34 : decode b_R_tellInterface 34 = .ok (.iload_n 3, 1) := by decide +kernel
theorem d_R_tellInterface_35 : decode b_R_tellInterface 35 = .ok (.iconst 1, 1) := by decide +kernel
theorem d_R_tellInterface_36 : decode b_R_tellInterface 36 = .ok (.bastore, 1) := by decide +kernel
theorem d_R_tellInterface_37 : decode b_R_tellInterface 37 = .ok (.iload_n 3, 1) := by decide +kernel
theorem d_R_tellInterface_38 : decode b_R_tellInterface 38 = .ok (.ireturn, 1) := by decide +kernel
theorem d_R_implement_0 : decode b_R_implement 0 = .ok (.aload_n 0, 1) := by decide +kernel
theorem d_R_implement_1 : decode b_R_implement 1 = .ok (.iload_n 1, 1) := by decide +kernel
theorem d_R_implement_2 : decode b_R_implement 2 = .ok (.invokevirtual 58, 3) := by decide +kernel
theorem d_R_implement_5 : decode b_R_implement 5 = .ok (.ifCond .eq 25, 3) := by decide +kernel
theorem d_R_implement_8 : decode b_R_implement 8 = .ok (.aload_n 0, 1) := by decide +kernel
theorem d_R_implement_9 : decode b_R_implement 9 = .ok (.iload_n 2, 1) := by decide +kernel
theorem d_R_implement_10 : decode b_R_implement 10 = .ok (.invokevirtual 58, 3) := by decide +kernel
theorem d_R_implement_13 : decode b_R_implement 13 = .ok (.ifCond .eq 17, 3) := by decide +kernel
theorem d_R_implement_16 : decode b_R_implement 16 = .ok (.iload_n 2, 1) := by decide +kernel
theorem d_R_implement_17 : decode b_R_implement 17 = .ok (.iload_n 1, 1) := by decide +kernel
theorem d_R_implement_18 : decode b_R_implement 18 = .ok (.if_icmp .ge 12, 3) := by decide +kernel
theorem d_R_implement_21 : decode b_R_implement 21 = .ok (.aload_n 0, 1) := by decide +kernel
theorem d_R_implement_22 : decode b_R_implement 22 = .ok (.getfield 7, 3) := by decide +kernel
theorem d_R_implement_25 : decode b_R_implement 25 = .ok (.iload_n 2, 1) := by decide +kernel
theorem d_R_implement_26 : decode b_R_implement 26 = .ok (.baload, 1) := by decide +kernel
theorem d_R_implement_27 : decode b_R_implement 27 = .ok (.ifCond .ne 5, 3) := by decide +kernel
theorem d_R_implement_30 : decode b_R_implement 30 = .ok (.iconst (-1), 1) := by decide +kernel
theorem d_R_implement_31 : decode b_R_implement 31 = .ok (.ireturn, 1) := by decide +kernel
theorem d_R_implement_32 : decode b_R_implement 32 = .ok (.iconst 0, 1) := by decide +kernel
theorem d_R_implement_33 : decode b_R_implement 33 = .ok (.istore_n 3, 1) := by decide +kernel
theorem d_R_implement_34 : decode b_R_implement 34 = .ok (.iload_n 3, 1) := by decide +kernel
theorem d_R_implement_35 : decode b_R_implement 35 = .ok (.aload_n 0, 1) := by decide +kernel
theorem d_R_implement_36 : decode b_R_implement 36 = .ok (.getfield 32, 3) := by decide +kernel
theorem d_R_implement_39 : decode b_R_implement 39 = .ok (.iload_n 1, 1) := by decide +kernel
theorem d_R_implement_40 : decode b_R_implement 40 = .ok (.iaload, 1) := by decide +kernel
theorem d_R_implement_41 : decode b_R_implement 41 = .ok (.if_icmp .ge 25, 3) := by decide +kernel
theorem d_R_implement_44 : decode b_R_implement 44 = .ok (.aload_n 0, 1) := by decide +kernel
theorem d_R_implement_45 : decode b_R_implement 45 = .ok (.getfield 29, 3) := by decide +kernel
theorem d_R_implement_48 : decode b_R_implement 48 = .ok (.iconst 4, 1) := by decide +kernel
theorem d_R_implement_49 : decode b_R_implement 49 = .ok (.iload_n 1, 1) := by decide +kernel
theorem d_R_implement_50 : decode b_R_implement 50 = .ok (.imul, 1) := by decide +kernel
theorem d_R_implement_51 : decode b_R_implement 51 = .ok (.iload_n 3, 1) := by decide +kernel
theorem d_R_implement_52 : decode b_R_implement 52 = .ok (.iadd, 1) := by decide +kernel
theorem d_R_implement_53 : decode b_R_implement 53 = .ok (.iaload, 1) := by decide +kernel
theorem d_R_implement_54 : decode b_R_implement 54 = .ok (.iload_n 2, 1) := by decide +kernel
theorem d_R_implement_55 : decode b_R_implement 55 = .ok (.if_icmp .ne 5, 3) := by decide +kernel
theorem d_R_implement_58 : decode b_R_implement 58 = .ok (.iconst (-1), 1) := by decide +kernel
theorem d_R_implement_59 : decode b_R_implement 59 = .ok (.ireturn, 1) := by decide +kernel
theorem d_R_implement_60 : decode b_R_implement 60 = .ok (.iinc 3 1, 3) := by decide +kernel
theorem d_R_implement_63 : decode b_R_implement 63 = .ok (.goto (-29), 3) := by decide +kernel
theorem d_R_implement_66 : decode b_R_implement 66 = .ok (.aload_n 0, 1) := by decide +kernel
theorem d_R_implement_67 : decode b_R_implement 67 = .ok (.getfield 32, 3) := by decide +kernel
theorem d_R_implement_70 : decode b_R_implement 70 = .ok (.iload_n 1, 1) := by decide +kernel
theorem d_R_implement_71 : decode b_R_implement 71 = .ok (.iaload, 1) := by decide +kernel
theorem d_R_implement_72 : decode b_R_implement 72 = .ok (.iconst 4, 1) := by decide +kernel
theorem d_R_implement_73 : decode b_R_implement 73 = .ok (.if_icmp .ne 6, 3) := by decide +kernel
theorem d_R_implement_76 : decode b_R_implement 76 = .ok (.bipush (-2), 2) := by decide +kernel
theorem d_R_implement_78 : decode b_R_implement 78 = .ok (.ireturn, 1) := by decide +kernel
theorem d_R_implement_79 : decode b_R_implement 79 = .ok (.aload_n 0, 1) := by decide +kernel
theorem d_R_implement_80 : decode b_R_implement 80 = .ok (.getfield 29, 3) := by decide +kernel
theorem d_R_implement_83 : decode b_R_implement 83 = .ok (.iconst 4, 1) := by decide +kernel
theorem d_R_implement_84 : decode b_R_implement 84 = .ok (.iload_n 1, 1) := by decide +kernel
theorem d_R_implement_85 : decode b_R_implement 85 = .ok (.imul, 1) := by decide +kernel
theorem d_R_implement_86 : decode b_R_implement 86 = .ok (.aload_n 0, 1) := by decide +kernel
theorem d_R_implement_87 : decode b_R_implement 87 = .ok (.getfield 32, 3) := by decide +kernel
theorem d_R_implement_90 : decode b_R_implement 90 = .ok (.iload_n 1, 1) := by decide +kernel
theorem d_R_implement_91 : decode b_R_implement 91 = .ok (.iaload, 1) := by decide +kernel
theorem d_R_implement_92 : decode b_R_implement 92 = .ok (.iadd, 1) := by decide +kernel
theorem d_R_implement_93 : decode b_R_implement 93 = .ok (.iload_n 2, 1) := by decide +kernel
theorem d_R_implement_94 : decode b_R_implement 94 = .ok (.iastore, 1) := by decide +kernel
theorem d_R_implement_95 : decode b_R_implement 95 = .ok (.aload_n 0, 1) := by decide +kernel
theorem d_R_implement_96 : decode b_R_implement 96 = .ok (.getfield 32, 3) := by decide +kernel
theorem d_R_implement_99 : decode b_R_implement 99 = .ok (.iload_n 1, 1) := by decide +kernel
theorem d_R_implement_100 : decode b_R_implement 100 = .ok (.dup2, 1) := by decide +kernel
theorem d_R_implement_101 : decode b_R_implement 101 = .ok (.iaload, 1) := by decide +kernel
theorem d_R_implement_102 : decode b_R_implement 102 = .ok (.iconst 1, 1) := by decide +kernel
theorem d_R_implement_103 : decode b_R_implement 103 = .ok (.iadd, 1) := by decide +kernel
theorem d_R_implement_104 : decode b_R_implement 104 = .ok (.iastore, 1) := by decide +kernel
theorem d_R_implement_105 : decode b_R_implement 105 = .ok (.aload_n 0, 1) := by decide +kernel
theorem d_R_implement_106 : decode b_R_implement 106 = .ok (.getfield 32, 3) := by decide +kernel
theorem d_R_implement_109 : decode b_R_implement 109 = .ok (.iload_n 1, 1) := by decide +kernel
theorem d_R_implement_110 : decode b_R_implement 110 = .ok (.iaload, 1) := by decide +kernel
theorem d_R_implement_111 : decode b_R_implement 111 = .ok (.ireturn, 1) := by decide +kernel
theorem d_R_nest_0 : decode b_R_nest 0 = .ok (.aload_n 0, 1) := by decide +kernel
theorem d_R_nest_1 : decode b_R_nest 1 = .ok (.iload_n 1, 1) := by decide +kernel
theorem d_R_nest_2 : decode b_R_nest 2 = .ok (.invokevirtual 58, 3) := by decide +kernel
theorem d_R_nest_5 : decode b_R_nest 5 = .ok (.ifCond .eq 41, 3) := by decide +kernel
theorem d_R_nest_8 : decode b_R_nest 8 = .ok (.aload_n 0, 1) := by decide +kernel
theorem d_R_nest_9 : decode b_R_nest 9 = .ok (.iload_n 2, 1) := by decide +kernel
theorem d_R_nest_10 : decode b_R_nest 10 = .ok (.invokevirtual 58, 3) := by decide +kernel
theorem d_R_nest_13 : decode b_R_nest 13 = .ok (.ifCond .eq 33, 3) := by decide +kernel
theorem d_R_nest_16 : decode b_R_nest 16 = .ok (.iload_n 2, 1) := by decide +kernel
theorem d_R_nest_17 : decode b_R_nest 17 = .ok (.iload_n 1, 1) := by decide +kernel
theorem d_R_nest_18 : decode b_R_nest 18 = .ok (.if_icmp .gt 28, 3) := by decide +kernel
theorem d_R_nest_21 : decode b_R_nest 21 = .ok (.aload_n 0, 1) := by decide +kernel
theorem d_R_nest_22 : decode b_R_nest 22 = .ok (.getfield 19, 3) := by decide +kernel
theorem d_R_nest_25 : decode b_R_nest 25 = .ok (.iload_n 1, 1) := by decide +kernel
theorem d_R_nest_26 : decode b_R_nest 26 = .ok (.iaload, 1) := by decide +kernel
theorem d_R_nest_27 : decode b_R_nest 27 = .ok (.aload_n 0, 1) := by decide +kernel
theorem d_R_nest_28 : decode b_R_nest 28 = .ok (.getfield 19, 3) := by decide +kernel
theorem d_R_nest_31 : decode b_R_nest 31 = .ok (.iload_n 2, 1) := by decide +kernel
theorem d_R_nest_32 : decode b_R_nest 32 = .ok (.iaload, 1) := by decide +kernel
theorem d_R_nest_33 : decode b_R_nest 33 = .ok (.if_icmp .ne 13, 3) := by decide +kernel
theorem d_R_nest_36 : decode b_R_nest 36 = .ok (.aload_n 0, 1) := by decide +kernel
theorem d_R_nest_37 : decode b_R_nest 37 = .ok (.getfield 26, 3) := by decide +kernel
theorem d_R_nest_40 : decode b_R_nest 40 = .ok (.iload_n 2, 1) := by decide +kernel
theorem d_R_nest_41 : decode b_R_nest 41 = .ok (.iaload, 1) := by decide +kernel
theorem d_R_nest_42 : decode b_R_nest 42 = .ok (.iload_n 2, 1) := by decide +kernel
theorem d_R_nest_43 : decode b_R_nest 43 = .ok (.if_icmp .eq 5, 3) := by decide +kernel
theorem d_R_nest_46 : decode b_R_nest 46 = .ok (.iconst (-1), 1) := by decide +kernel
theorem d_R_nest_47 : decode b_R_nest 47 = .ok (.ireturn, 1) := by decide +kernel
theorem d_R_nest_48 : decode b_R_nest 48 = .ok (.iconst 1, 1) := by decide +kernel
theorem d_R_nest_49 : decode b_R_nest 49 = .ok (.istore_n 3, 1) := by decide +kernel
theorem d_R_nest_50 : decode b_R_nest 50 = .ok (.iload_n 3, 1) := by decide +kernel
theorem d_R_nest_51 : decode b_R_nest 51 = .ok (.aload_n 0, 1) := by decide +kernel
theorem d_R_nest_52 : decode b_R_nest 52 = .ok (.getfield 50, 3) := by decide +kernel
theorem d_R_nest_55 : decode b_R_nest 55 = .ok (.if_icmp .gt 26, 3) := by decide +kernel
theorem d_R_nest_58 : decode b_R_nest 58 = .ok (.iload_n 3, 1) := by decide +kernel
theorem d_R_nest_59 : decode b_R_nest 59 = .ok (.iload_n 1, 1) := by decide +kernel
theorem d_R_nest_60 : decode b_R_nest 60 = .ok (.if_icmp .eq 15, 3) := by decide +kernel
theorem d_R_nest_63 : decode b_R_nest 63 = .ok (.aload_n 0, 1) := by decide +kernel
theorem d_R_nest_64 : decode b_R_nest 64 = .ok (.getfield 26, 3) := by decide +kernel
theorem d_R_nest_67 : decode b_R_nest 67 = .ok (.iload_n 3, 1) := by decide +kernel
theorem d_R_nest_68 : decode b_R_nest 68 = .ok (.iaload, 1) := by decide +kernel
theorem d_R_nest_69 : decode b_R_nest 69 = .ok (.iload_n 1, 1) := by decide +kernel
theorem d_R_nest_70 : decode b_R_nest 70 = .ok (.if_icmp .ne 5, 3) := by decide +kernel
theorem d_R_nest_73 : decode b_R_nest 73 = .ok (.iconst (-1), 1) := by decide +kernel
theorem d_R_nest_74 : decode b_R_nest 74 = .ok (.ireturn, 1) := by decide +kernel
theorem d_R_nest_75 : decode b_R_nest 75 = .ok (.iinc 3 1, 3) := by decide +kernel
theorem d_R_nest_78 : decode b_R_nest 78 = .ok (.goto (-28), 3) := by decide +kernel
theorem d_R_nest_81 : decode b_R_nest 81 = .ok (.aload_n 0, 1) := by decide +kernel
theorem d_R_nest_82 : decode b_R_nest 82 = .ok (.getfield 26, 3) := by decide +kernel
theorem d_R_nest_85 : decode b_R_nest 85 = .ok (.iload_n 1, 1) := by decide +kernel
theorem d_R_nest_86 : decode b_R_nest 86 = .ok (.iload_n 2, 1) := by decide +kernel
theorem d_R_nest_87 : decode b_R_nest 87 = .ok (.iastore, 1) := by decide +kernel
theorem d_R_nest_88 : decode b_R_nest 88 = .ok (.iconst 0, 1) := by decide +kernel
theorem d_R_nest_89 : decode b_R_nest 89 = .ok (.ireturn, 1) := by decide +kernel
theorem d_R_field_0 : decode b_R_field 0 = .ok (.aload_n 0, 1) := by decide +kernel
theorem d_R_field_1 : decode b_R_field 1 = .ok (.iload_n 1, 1) := by decide +kernel
theorem d_R_field_2 : decode b_R_field 2 = .ok (.invokevirtual 58, 3) := by decide +kernel
theorem d_R_field_5 : decode b_R_field 5 = .ok (.ifCond .eq 40, 3) := by decide +kernel
theorem d_R_field_8 : decode b_R_field 8 = .ok (.iload_n 2, 1) := by decide +kernel
theorem d_R_field_9 : decode b_R_field 9 = .ok (.iconst 0, 1) := by decide +kernel
theorem d_R_field_10 : decode b_R_field 10 = .ok (.iconst 3, 1) := by decide +kernel
theorem d_R_field_11 : decode b_R_field 11 = .ok (.invokestatic 54, 3) := by decide +kernel
theorem d_R_field_14 : decode b_R_field 14 = .ok (.ifCond .eq 31, 3) := by decide +kernel
theorem d_R_field_17 : decode b_R_field 17 = .ok (.iload_n 3, 1) := by decide +kernel
theorem d_R_field_18 : decode b_R_field 18 = .ok (.iconst 0, 1) := by decide +kernel
theorem d_R_field_19 : decode b_R_field 19 = .ok (.iconst 3, 1) := by decide +kernel
theorem d_R_field_20 : decode b_R_field 20 = .ok (.invokestatic 54, 3) := by decide +kernel
theorem d_R_field_23 : decode b_R_field 23 = .ok (.ifCond .eq 22, 3) := by decide +kernel
theorem d_R_field_26 : decode b_R_field 26 = .ok (.aload_n 0, 1) := by decide +kernel
theorem d_R_field_27 : decode b_R_field 27 = .ok (.getfield 7, 3) := by decide +kernel
theorem d_R_field_30 : decode b_R_field 30 = .ok (.iload_n 1, 1) := by decide +kernel
theorem d_R_field_31 : decode b_R_field 31 = .ok (.baload, 1) := by decide +kernel
theorem d_R_field_32 : decode b_R_field 32 = .ok (.ifCond .eq 15, 3) := by decide +kernel
theorem d_R_field_35 : decode b_R_field 35 = .ok (.iload_n 3, 1) := by decide +kernel
theorem d_R_field_36 : decode b_R_field 36 = .ok (.iconst 3, 1) := by decide +kernel
theorem d_R_field_37 : decode b_R_field 37 = .ok (.if_icmp .ne 8, 3) := by decide +kernel
theorem d_R_field_40 : decode b_R_field 40 = .ok (.iload 4, 2) := by decide +kernel
theorem d_R_field_42 : decode b_R_field 42 = .ok (.ifCond .ne 5, 3) := by decide +kernel
theorem d_R_field_45 : decode b_R_field 45 = .ok (.iconst (-1), 1) := by decide +kernel
theorem d_R_field_46 : decode b_R_field 46 = .ok (.ireturn, 1) := by decide +kernel
theorem d_R_field_47 : decode b_R_field 47 = .ok (.aload_n 0, 1) := by decide +kernel
theorem d_R_field_48 : decode b_R_field 48 = .ok (.getfield 35, 3) := by decide +kernel
theorem d_R_field_51 : decode b_R_field 51 = .ok (.iconst 4, 1) := by decide +kernel
theorem d_R_field_52 : decode b_R_field 52 = .ok (.iload_n 1, 1) := by decide +kernel
theorem d_R_field_53 : decode b_R_field 53 = .ok (.imul, 1) := by decide +kernel
theorem d_R_field_54 : decode b_R_field 54 = .ok (.iload_n 2, 1) := by decide +kernel
theorem d_R_field_55 : decode b_R_field 55 = .ok (.iadd, 1) := by decide +kernel
theorem d_R_field_56 : decode b_R_field 56 = .ok (.iload_n 3, 1) := by decide +kernel
theorem d_R_field_57 : decode b_R_field 57 = .ok (.iload 4, 2) := by decide +kernel
theorem d_R_field_59 : decode b_R_field 59 = .ok (.ifCond .eq 7, 3) := by decide +kernel
theorem d_R_field_62 : decode b_R_field 62 = .ok (.iconst 4, 1) := by decide +kernel
theorem d_R_field_63 : decode b_R_field 63 = .ok (.goto 4, 3) := by decide +kernel
theorem d_R_field_66 : decode b_R_field 66 = .ok (.iconst 0, 1) := by decide +kernel
theorem d_R_field_67 : decode b_R_field 67 = .ok (.iadd, 1) := by decide +kernel
theorem d_R_field_68 : decode b_R_field 68 = .ok (.iastore, 1) := by decide +kernel
theorem d_R_field_69 : decode b_R_field 69 = .ok (.iconst 0, 1) := by decide +kernel
theorem d_R_field_70 : decode b_R_field 70 = .ok (.ireturn, 1) := by decide +kernel
theorem d_R_method_0 : decode b_R_method 0 = .ok (.aload_n 0, 1) := by decide +kernel
theorem d_R_method_1 : decode b_R_method 1 = .ok (.iload_n 1, 1) := by decide +kernel
theorem d_R_method_2 : decode b_R_method 2 = .ok (.invokevirtual 58, 3) := by decide +kernel
theorem d_R_method_5 : decode b_R_method 5 = .ok (.ifCond .eq 31, 3) := by decide +kernel
theorem d_R_method_8 : decode b_R_method 8 = .ok (.iload_n 2, 1) := by decide +kernel
theorem d_R_method_9 : decode b_R_method 9 = .ok (.iconst 0, 1) := by decide +kernel
theorem d_R_method_10 : decode b_R_method 10 = .ok (.iconst 3, 1) := by decide +kernel
theorem d_R_method_11 : decode b_R_method 11 = .ok (.invokestatic 54, 3) := by decide +kernel
theorem d_R_method_14 : decode b_R_method 14 = .ok (.ifCond .eq 22, 3) := by decide +kernel
theorem d_R_method_17 : decode b_R_method 17 = .ok (.iload_n 3, 1) := by decide +kernel
theorem d_R_method_18 : decode b_R_method 18 = .ok (.iconst 0, 1) := by decide +kernel
theorem d_R_method_19 : decode b_R_method 19 = .ok (.iconst 3, 1) := by decide +kernel
theorem d_R_method_20 : decode b_R_method 20 = .ok (.invokestatic 54, 3) := by decide +kernel
theorem d_R_method_23 : decode b_R_method 23 = .ok (.ifCond .eq 13, 3) := by decide +kernel
theorem d_R_method_26 : decode b_R_method 26 = .ok (.iload 4, 2) := by decide +kernel
theorem d_R_method_28 : decode b_R_method 28 = .ok (.iconst 0, 1) := by decide +kernel
theorem d_R_method_29 : decode b_R_method 29 = .ok (.iconst 2, 1) := by decide +kernel
theorem d_R_method_30 : decode b_R_method 30 = .ok (.invokestatic 54, 3) := by decide +kernel
theorem d_R_method_33 : decode b_R_method 33 = .ok (.ifCond .ne 5, 3) := by decide +kernel
theorem d_R_method_36 : decode b_R_method 36 = .ok (.iconst (-1), 1) := by decide +kernel
theorem d_R_method_37 : decode b_R_method 37 = .ok (.ireturn, 1) := by decide +kernel
theorem d_R_method_38 : decode b_R_method 38 = .ok (.iload 4, 2) := by decide +kernel
theorem d_R_method_40 : decode b_R_method 40 = .ok (.iconst 2, 1) := by decide +kernel
theorem d_R_method_41 : decode b_R_method 41 = .ok (.if_icmp .ne 7, 3) := by decide +kernel
theorem d_R_method_44 : decode b_R_method 44 = .ok (.iload_n 3, 1) := by decide +kernel
theorem d_R_method_45 : decode b_R_method 45 = .ok (.ifCond .eq 21, 3) := by decide +kernel
theorem d_R_method_48 : decode b_R_method 48 = .ok (.aload_n 0, 1) := by decide +kernel
theorem d_R_method_49 : decode b_R_method 49 = .ok (.getfield 7, 3) := by decide +kernel
theorem d_R_method_52 : decode b_R_method 52 = .ok (.iload_n 1, 1) := by decide +kernel
theorem d_R_method_53 : decode b_R_method 53 = .ok (.baload, 1) := by decide +kernel
theorem d_R_method_54 : decode b_R_method 54 = .ok (.ifCond .eq 14, 3) := by decide +kernel
theorem d_R_method_57 : decode b_R_method 57 = .ok (.iload_n 3, 1) := by decide +kernel
theorem d_R_method_58 : decode b_R_method 58 = .ok (.ifCond .eq 10, 3) := by decide +kernel
theorem d_R_method_61 : decode b_R_method 61 = .ok (.iload_n 3, 1) := by decide +kernel
theorem d_R_method_62 : decode b_R_method 62 = .ok (.iconst 3, 1) := by decide +kernel
theorem d_R_method_63 : decode b_R_method 63 = .ok (.if_icmp .eq 5, 3) := by decide +kernel
theorem d_R_method_66 : decode b_R_method 66 = .ok (.iconst (-1), 1) := by decide +kernel
theorem d_R_method_67 : decode b_R_method 67 = .ok (.ireturn, 1) := by decide +kernel
theorem d_R_method_68 : decode b_R_method 68 = .ok (.aload_n 0, 1) := by decide +kernel
theorem d_R_method_69 : decode b_R_method 69 = .ok (.getfield 38, 3) := by decide +kernel
theorem d_R_method_72 : decode b_R_method 72 = .ok (.iconst 4, 1) := by decide +kernel
theorem d_R_method_73 : decode b_R_method 73 = .ok (.iload_n 1, 1) := by decide +kernel
theorem d_R_method_74 : decode b_R_method 74 = .ok (.imul, 1) := by decide +kernel
theorem d_R_method_75 : decode b_R_method 75 = .ok (.iload_n 2, 1) := by decide +kernel
theorem d_R_method_76 : decode b_R_method 76 = .ok (.iadd, 1) := by decide +kernel
theorem d_R_method_77 : decode b_R_method 77 = .ok (.iload_n 3, 1) := by decide +kernel
theorem d_R_method_78 : decode b_R_method 78 = .ok (.iconst 4, 1) := by decide +kernel
theorem d_R_method_79 : decode b_R_method 79 = .ok (.iload 4, 2) := by decide +kernel
theorem d_R_method_81 : decode b_R_method 81 = .ok (.imul, 1) := by decide +kernel
theorem d_R_method_82 : decode b_R_method 82 = .ok (.iadd, 1) := by decide +kernel
theorem d_R_method_83 : decode b_R_method 83 = .ok (.iastore, 1) := by decide +kernel
theorem d_R_method_84 : decode b_R_method 84 = .ok (.iconst 0, 1) := by decide +kernel
theorem d_R_method_85 : decode b_R_method 85 = .ok (.ireturn, 1) := by decide +kernel
theorem d_R_untell_0 : decode b_R_untell 0 = .ok (.aload_n 0, 1) := by decide +kernel
theorem d_R_untell_1 : decode b_R_untell 1 = .ok (.iload_n 1, 1) := by decide +kernel
theorem d_R_untell_2 : decode b_R_untell 2 = .ok (.invokevirtual 58, 3) := by decide +kernel
theorem d_R_untell_5 : decode b_R_untell 5 = .ok (.ifCond .eq 21, 3) := by decide +kernel
theorem d_R_untell_8 : decode b_R_untell 8 = .ok (.iload_n 2, 1) := by decide +kernel
theorem d_R_untell_9 : decode b_R_untell 9 = .ok (.iconst 0, 1) := by decide +kernel
theorem d_R_untell_10 : decode b_R_untell 10 = .ok (.iconst 1, 1) := by decide +kernel
theorem d_R_untell_11 : decode b_R_untell 11 = .ok (.invokestatic 54, 3) := by decide +kernel
theorem d_R_untell_14 : decode b_R_untell 14 = .ok (.ifCond .eq 12, 3) := by decide +kernel
theorem d_R_untell_17 : decode b_R_untell 17 = .ok (.iload_n 3, 1) := by decide +kernel
