theorem d_R_findField_26 : decode b_R_findField 26 = .ok (.iaload, 1) := by decide +kernel
theorem d_R_findField_27 : decode b_R_findField 27 = .ok (.istore 5, 2) := by decide +kernel
theorem d_R_findField_29 : decode b_R_findField 29 = .ok (.aload_n 0, 1) := by decide +kernel
theorem d_R_findField_30 : decode b_R_findField 30 = .ok (.getfield 35, 3) := by decide +kernel
theorem d_R_findField_33 : decode b_R_findField 33 = .ok (.iconst 4, 1) := by decide +kernel
theorem d_R_findField_34 : decode b_R_findField 34 = .ok (.iload 5, 2) := by decide +kernel
theorem d_R_findField_36 : decode b_R_findField 36 = .ok (.imul, 1) := by decide +kernel
theorem d_R_findField_37 : decode b_R_findField 37 = .ok (.iload_n 2, 1) := by decide +kernel
theorem d_R_findField_38 : decode b_R_findField 38 = .ok (.iadd, 1) := by decide +kernel
theorem d_R_findField_39 : decode b_R_findField 39 = .ok (.iaload, 1) := by decide +kernel
theorem d_R_findField_40 : decode b_R_findField 40 = .ok (.ifCond .lt 6, 3) := by decide +kernel
theorem d_R_findField_43 : decode b_R_findField 43 = .ok (.iload 5, 2) := by decide +kernel
theorem d_R_findField_45 : decode b_R_findField 45 = .ok (.ireturn, 1) := by decide +kernel
theorem d_R_findField_46 : decode b_R_findField 46 = .ok (.iload_n 3, 1) := by decide +kernel
theorem d_R_findField_47 : decode b_R_findField 47 = .ok (.iload 5, 2) := by decide +kernel
theorem d_R_findField_49 : decode b_R_findField 49 = .ok (.ishr, 1) := by decide +kernel
theorem d_R_findField_50 : decode b_R_findField 50 = .ok (.iconst 1, 1) := by decide +kernel
theorem d_R_findField_51 : decode b_R_findField 51 = .ok (.iand, 1) := by decide +kernel
theorem d_R_findField_52 : decode b_R_findField 52 = .ok (.ifCond .eq 6, 3) := by decide +kernel
theorem d_R_findField_55 : decode b_R_findField 55 = .ok (.goto (-43), 3) := by decide +kernel
theorem d_R_findField_58 : decode b_R_findField 58 = .ok (.iload_n 3, 1) := by decide +kernel
theorem d_R_findField_59 : decode b_R_findField 59 = .ok (.iconst 1, 1) := by decide +kernel
theorem d_R_findField_60 : decode b_R_findField 60 = .ok (.iload 5, 2) := by decide +kernel
theorem d_R_findField_62 : decode b_R_findField 62 = .ok (.ishl, 1) := by decide +kernel
theorem d_R_findField_63 : decode b_R_findField 63 = .ok (.ior, 1) := by decide +kernel
theorem d_R_findField_64 : decode b_R_findField 64 = .ok (.istore_n 3, 1) := by decide +kernel
theorem d_R_findField_65 : decode b_R_findField 65 = .ok (.aload_n 0, 1) := by decide +kernel
theorem d_R_findField_66 : decode b_R_findField 66 = .ok (.getfield 23, 3) := by decide +kernel
theorem d_R_findField_69 : decode b_R_findField 69 = .ok (.iload 5, 2) := by decide +kernel
theorem d_R_findField_71 : decode b_R_findField 71 = .ok (.iaload, 1) := by decide +kernel
theorem d_R_findField_72 : decode b_R_findField 72 = .ok (.ifCond .le 20, 3) := by decide +kernel
theorem d_R_findField_75 : decode b_R_findField 75 = .ok (.aload_n 0, 1) := by decide +kernel
theorem d_R_findField_76 : decode b_R_findField 76 = .ok (.getfield 47, 3) := by decide +kernel
theorem d_R_findField_79 : decode b_R_findField 79 = .ok (.iload 4, 2) := by decide +kernel
theorem d_R_findField_81 : decode b_R_findField 81 = .ok (.aload_n 0, 1) := by decide +kernel
theorem d_R_findField_82 : decode b_R_findField 82 = .ok (.getfield 23, 3) := by decide +kernel
theorem d_R_findField_85 : decode b_R_findField 85 = .ok (.iload 5, 2) := by decide +kernel
theorem d_R_findField_87 : decode b_R_findField 87 = .ok (.iaload, 1) := by decide +kernel
theorem d_R_findField_88 : decode b_R_findField 88 = .ok (.iastore, 1) := by decide +kernel
theorem d_R_findField_89 : decode b_R_findField 89 = .ok (.iinc 4 1, 3) := by decide +kernel
theorem d_R_findField_92 : decode b_R_findField 92 = .ok (.aload_n 0, 1) := by decide +kernel
theorem d_R_findField_93 : decode b_R_findField 93 = .ok (.getfield 32, 3) := by decide +kernel
theorem d_R_findField_96 : decode b_R_findField 96 = .ok (.iload 5, 2) := by decide +kernel
theorem d_R_findField_98 : decode b_R_findField 98 = .ok (.iaload, 1) := by decide +kernel
theorem d_R_findField_99 : decode b_R_findField 99 = .ok (.iconst 1, 1) := by decide +kernel
theorem d_R_findField_100 : decode b_R_findField 100 = .ok (.isub, 1) := by decide +kernel
theorem d_R_findField_101 : decode b_R_findField 101 = .ok (.istore 6, 2) := by decide +kernel
theorem d_R_findField_103 : decode b_R_findField 103 = .ok (.iload 6, 2) := by decide +kernel
theorem d_R_findField_105 : decode b_R_findField 105 = .ok (.ifCond .lt 31, 3) := by decide +kernel
theorem d_R_findField_108 : decode b_R_findField 108 = .ok (.aload_n 0, 1) := by decide +kernel
theorem d_R_findField_109 : decode b_R_findField 109 = .ok (.getfield 47, 3) := by decide +kernel
theorem d_R_findField_112 : decode b_R_findField 112 = .ok (.iload 4, 2) := by decide +kernel
theorem d_R_findField_114 : decode b_R_findField 114 = .ok (.aload_n 0, 1) := by decide +kernel
theorem d_R_findField_115 : decode b_R_findField 115 = .ok (.getfield 29, 3) := by decide +kernel
theorem d_R_findField_118 : decode b_R_findField 118 = .ok (.iconst 4, 1) := by decide +kernel
theorem d_R_findField_119 : decode b_R_findField 119 = .ok (.iload 5, 2) := by decide +kernel
theorem d_R_findField_121 : decode b_R_findField 121 = .ok (.imul, 1) := by decide +kernel
theorem d_R_findField_122 : decode b_R_findField 122 = .ok (.iload 6, 2) := by decide +kernel
theorem d_R_findField_124 : decode b_R_findField 124 = .ok (.iadd, 1) := by decide +kernel
theorem d_R_findField_125 : decode b_R_findField 125 = .ok (.iaload, 1) := by decide +kernel
theorem d_R_findField_126 : decode b_R_findField 126 = .ok (.iastore, 1) := by decide +kernel
theorem d_R_findField_127 : decode b_R_findField 127 = .ok (.iinc 4 1, 3) := by decide +kernel
theorem d_R_findField_130 : decode b_R_findField 130 = .ok (.iinc 6 (-1), 3) := by decide +kernel
theorem d_R_findField_133 : decode b_R_findField 133 = .ok (.goto (-30), 3) := by decide +kernel
theorem d_R_findField_136 : decode b_R_findField 136 = .ok (.goto (-124), 3) := by decide +kernel
theorem d_R_findField_139 : decode b_R_findField 139 = .ok (.iconst 0, 1) := by decide +kernel
theorem d_R_findField_140 : decode b_R_findField 140 = .ok (.ireturn, 1) := by decide +kernel
theorem d_R_findAbove_0 : decode b_R_findAbove 0 = .ok (.aload_n 0, 1) := by decide +kernel
theorem d_R_findAbove_1 : decode b_R_findAbove 1 = .ok (.aload_n 0, 1) := by decide +kernel
theorem d_R_findAbove_2 : decode b_R_findAbove 2 = .ok (.iload_n 1, 1) := by decide +kernel
theorem d_R_findAbove_3 : decode b_R_findAbove 3 = .ok (.iload_n 2, 1) := by decide +kernel
theorem d_R_findAbove_4 : decode b_R_findAbove 4 = .ok (.invokevirtual 86, 3) := by decide +kernel
theorem d_R_findAbove_7 : decode b_R_findAbove 7 = .ok (.iload_n 2, 1) := by decide +kernel
theorem d_R_findAbove_8 : decode b_R_findAbove 8 = .ok (.invokevirtual 89, 3) := by decide +kernel
theorem d_R_findAbove_11 : decode b_R_findAbove 11 = .ok (.istore_n 3, 1) := by decide +kernel
theorem d_R_findAbove_12 : decode b_R_findAbove 12 = .ok (.iload_n 3, 1) := by decide +kernel
theorem d_R_findAbove_13 : decode b_R_findAbove 13 = .ok (.ifCond .le 10, 3) := by decide +kernel
theorem d_R_findAbove_16 : decode b_R_findAbove 16 = .ok (.aload_n 0, 1) := by decide +kernel
theorem d_R_findAbove_17 : decode b_R_findAbove 17 = .ok (.iconst 1, 1) := by decide +kernel
theorem d_R_findAbove_18 : decode b_R_findAbove 18 = .ok (.putfield 92, 3) := by decide +kernel
theorem d_R_findAbove_21 : decode b_R_findAbove 21 = .ok (.iload_n 3, 1) := by decide +kernel
theorem d_R_findAbove_22 : decode b_R_findAbove 22 = .ok (.ireturn, 1) := by decide +kernel
theorem d_R_findAbove_23 : decode b_R_findAbove 23 = .ok (.aload_n 0, 1) := by decide +kernel
theorem d_R_findAbove_24 : decode b_R_findAbove 24 = .ok (.iload_n 1, 1) := by decide +kernel
theorem d_R_findAbove_25 : decode b_R_findAbove 25 = .ok (.iload_n 2, 1) := by decide +kernel
theorem d_R_findAbove_26 : decode b_R_findAbove 26 = .ok (.invokevirtual 79, 3) := by decide +kernel
theorem d_R_findAbove_29 : decode b_R_findAbove 29 = .ok (.istore 4, 2) := by decide +kernel
theorem d_R_findAbove_31 : decode b_R_findAbove 31 = .ok (.iconst 0, 1) := by decide +kernel
theorem d_R_findAbove_32 : decode b_R_findAbove 32 = .ok (.istore 5, 2) := by decide +kernel
theorem d_R_findAbove_34 : decode b_R_findAbove 34 = .ok (.aload_n 0, 1) := by decide +kernel
theorem d_R_findAbove_35 : decode b_R_findAbove 35 = .ok (.getfield 50, 3) := by decide +kernel
theorem d_R_findAbove_38 : decode b_R_findAbove 38 = .ok (.istore 6, 2) := by decide +kernel
theorem d_R_findAbove_40 : decode b_R_findAbove 40 = .ok (.iload 6, 2) := by decide +kernel
theorem d_R_findAbove_42 : decode b_R_findAbove 42 = .ok (.ifCond .le 36, 3) := by decide +kernel
theorem d_R_findAbove_45 : decode b_R_findAbove 45 = .ok (.iload 4, 2) := by decide +kernel
theorem d_R_findAbove_47 : decode b_R_findAbove 47 = .ok (.iload 6, 2) := by decide +kernel
theorem d_R_findAbove_49 : decode b_R_findAbove 49 = .ok (.ishr, 1) := by decide +kernel
theorem d_R_findAbove_50 : decode b_R_findAbove 50 = .ok (.iconst 1, 1) := by decide +kernel
theorem d_R_findAbove_51 : decode b_R_findAbove 51 = .ok (.iand, 1) := by decide +kernel
theorem d_R_findAbove_52 : decode b_R_findAbove 52 = .ok (.ifCond .ne 6, 3) := by decide +kernel
theorem d_R_findAbove_55 : decode b_R_findAbove 55 = .ok (.goto 17, 3) := by decide +kernel
theorem d_R_findAbove_58 : decode b_R_findAbove 58 = .ok (.aload_n 0, 1) := by decide +kernel
theorem d_R_findAbove_59 : decode b_R_findAbove 59 = .ok (.dup, 1) := by decide +kernel
theorem d_R_findAbove_60 : decode b_R_findAbove 60 = .ok (.getfield 92, 3) := by decide +kernel
theorem d_R_findAbove_63 : decode b_R_findAbove 63 = .ok (.iconst 1, 1) := by decide +kernel
theorem d_R_findAbove_64 : decode b_R_findAbove 64 = .ok (.iadd, 1) := by decide +kernel
theorem d_R_findAbove_65 : decode b_R_findAbove 65 = .ok (.putfield 92, 3) := by decide +kernel
theorem d_R_findAbove_68 : decode b_R_findAbove 68 = .ok (.iload 6, 2) := by decide +kernel
theorem d_R_findAbove_70 : decode b_R_findAbove 70 = .ok (.istore 5, 2) := by decide +kernel
theorem d_R_findAbove_72 : decode b_R_findAbove 72 = .ok (.iinc 6 (-1), 3) := by decide +kernel
theorem d_R_findAbove_75 : decode b_R_findAbove 75 = .ok (.goto (-35), 3) := by decide +kernel
theorem d_R_findAbove_78 : decode b_R_findAbove 78 = .ok (.iload 5, 2) := by decide +kernel
theorem d_R_findAbove_80 : decode b_R_findAbove 80 = .ok (.ireturn, 1) := by decide +kernel
theorem d_R_findMethod_0 : decode b_R_findMethod 0 = .ok (.iload_n 2, 1) := by decide +kernel
theorem d_R_findMethod_1 : decode b_R_findMethod 1 = .ok (.istore 4, 2) := by decide +kernel
theorem d_R_findMethod_3 : decode b_R_findMethod 3 = .ok (.iload 4, 2) := by decide +kernel
theorem d_R_findMethod_5 : decode b_R_findMethod 5 = .ok (.ifCond .le 45, 3) := by decide +kernel
theorem d_R_findMethod_8 : decode b_R_findMethod 8 = .ok (.aload_n 0, 1) := by decide +kernel
theorem d_R_findMethod_9 : decode b_R_findMethod 9 = .ok (.iload 4, 2) := by decide +kernel
theorem d_R_findMethod_11 : decode b_R_findMethod 11 = .ok (.iload_n 3, 1) := by decide +kernel
theorem d_R_findMethod_12 : decode b_R_findMethod 12 = .ok (.invokevirtual 70, 3) := by decide +kernel
theorem d_R_findMethod_15 : decode b_R_findMethod 15 = .ok (.ifCond .ne 6, 3) := by decide +kernel
theorem d_R_findMethod_18 : decode b_R_findMethod 18 = .ok (.goto 11, 3) := by decide +kernel
theorem d_R_findMethod_21 : decode b_R_findMethod 21 = .ok (.aload_n 0, 1) := by decide +kernel
theorem d_R_findMethod_22 : decode b_R_findMethod 22 = .ok (.iconst 1, 1) := by decide +kernel
theorem d_R_findMethod_23 : decode b_R_findMethod 23 = .ok (.putfield 92, 3) := by decide +kernel
theorem d_R_findMethod_26 : decode b_R_findMethod 26 = .ok (.iload 4, 2) := by decide +kernel
theorem d_R_findMethod_28 : decode b_R_findMethod 28 = .ok (.ireturn, 1) := by decide +kernel
theorem d_R_findMethod_29 : decode b_R_findMethod 29 = .ok (.iload_n 1, 1) := by decide +kernel
theorem d_R_findMethod_30 : decode b_R_findMethod 30 = .ok (.iconst 1, 1) := by decide +kernel
theorem d_R_findMethod_31 : decode b_R_findMethod 31 = .ok (.if_icmp .ne 13, 3) := by decide +kernel
theorem d_R_findMethod_34 : decode b_R_findMethod 34 = .ok (.aload_n 0, 1) := by decide +kernel
theorem d_R_findMethod_35 : decode b_R_findMethod 35 = .ok (.getfield 23, 3) := by decide +kernel
theorem d_R_findMethod_38 : decode b_R_findMethod 38 = .ok (.iload 4, 2) := by decide +kernel
theorem d_R_findMethod_40 : decode b_R_findMethod 40 = .ok (.iaload, 1) := by decide +kernel
theorem d_R_findMethod_41 : decode b_R_findMethod 41 = .ok (.goto 4, 3) := by decide +kernel
theorem d_R_findMethod_44 : decode b_R_findMethod 44 = .ok (.iconst 0, 1) := by decide +kernel
theorem d_R_findMethod_45 : decode b_R_findMethod 45 = .ok (.istore 4, 2) := by decide +kernel
theorem d_R_findMethod_47 : decode b_R_findMethod 47 = .ok (.goto (-44), 3) := by decide +kernel
theorem d_R_findMethod_50 : decode b_R_findMethod 50 = .ok (.aload_n 0, 1) := by decide +kernel
theorem d_R_findMethod_51 : decode b_R_findMethod 51 = .ok (.iload_n 2, 1) := by decide +kernel
theorem d_R_findMethod_52 : decode b_R_findMethod 52 = .ok (.iload_n 3, 1) := by decide +kernel
theorem d_R_findMethod_53 : decode b_R_findMethod 53 = .ok (.invokevirtual 95, 3) := by decide +kernel
theorem d_R_findMethod_56 : decode b_R_findMethod 56 = .ok (.ireturn, 1) := by decide +kernel
theorem d_R_resolved_0 : decode b_R_resolved 0 = .ok (.aload_n 0, 1) := by decide +kernel
theorem d_R_resolved_1 : decode b_R_resolved 1 = .ok (.iconst 0, 1) := by decide +kernel
theorem d_R_resolved_2 : decode b_R_resolved 2 = .ok (.putfield 92, 3) := by decide +kernel
theorem d_R_resolved_5 : decode b_R_resolved 5 = .ok (.aload_n 0, 1) := by decide +kernel
theorem d_R_resolved_6 : decode b_R_resolved 6 = .ok (.iload_n 2, 1) := by decide +kernel
theorem d_R_resolved_7 : decode b_R_resolved 7 = .ok (.iload_n 3, 1) := by decide +kernel
theorem d_R_resolved_8 : decode b_R_resolved 8 = .ok (.invokevirtual 98, 3) := by decide +kernel
theorem d_R_resolved_11 : decode b_R_resolved 11 = .ok (.ifCond .ne 6, 3) := by decide +kernel
theorem d_R_resolved_14 : decode b_R_resolved 14 = .ok (.bipush (-5), 2) := by decide +kernel
theorem d_R_resolved_16 : decode b_R_resolved 16 = .ok (.ireturn, 1) := by decide +kernel
theorem d_R_resolved_17 : decode b_R_resolved 17 = .ok (.iload_n 1, 1) := by decide +kernel
theorem d_R_resolved_18 : decode b_R_resolved 18 = .ok (.ifCond .ne 55, 3) := by decide +kernel
theorem d_R_resolved_21 : decode b_R_resolved 21 = .ok (.aload_n 0, 1) := by decide +kernel
theorem d_R_resolved_22 : decode b_R_resolved 22 = .ok (.iload_n 3, 1) := by decide +kernel
theorem d_R_resolved_23 : decode b_R_resolved 23 = .ok (.iload 4, 2) := by decide +kernel
theorem d_R_resolved_25 : decode b_R_resolved 25 = .ok (.invokevirtual 101, 3) := by decide +kernel
theorem d_R_resolved_28 : decode b_R_resolved 28 = .ok (.istore 5, 2) := by decide +kernel
theorem d_R_resolved_30 : decode b_R_resolved 30 = .ok (.iload 5, 2) := by decide +kernel
theorem d_R_resolved_32 : decode b_R_resolved 32 = .ok (.ifCond .ne 6, 3) := by decide +kernel
theorem d_R_resolved_35 : decode b_R_resolved 35 = .ok (.bipush (-3), 2) := by decide +kernel
theorem d_R_resolved_37 : decode b_R_resolved 37 = .ok (.ireturn, 1) := by decide +kernel
theorem d_R_resolved_38 : decode b_R_resolved 38 = .ok (.aload_n 0, 1) := by decide +kernel
theorem d_R_resolved_39 : decode b_R_resolved 39 = .ok (.iconst 1, 1) := by decide +kernel
theorem d_R_resolved_40 : decode b_R_resolved 40 = .ok (.putfield 92, 3) := by decide +kernel
theorem d_R_resolved_43 : decode b_R_resolved 43 = .ok (.aload_n 0, 1) := by decide +kernel
theorem d_R_resolved_44 : decode b_R_resolved 44 = .ok (.iload_n 2, 1) := by decide +kernel
theorem d_R_resolved_45 : decode b_R_resolved 45 = .ok (.iload 5, 2) := by decide +kernel
theorem d_R_resolved_47 : decode b_R_resolved 47 = .ok (.aload_n 0, 1) := by decide +kernel
theorem d_R_resolved_48 : decode b_R_resolved 48 = .ok (.getfield 35, 3) := by decide +kernel
theorem d_R_resolved_51 : decode b_R_resolved 51 = .ok (.iconst 4, 1) := by decide +kernel
theorem d_R_resolved_52 : decode b_R_resolved 52 = .ok (.iload 5, 2) := by decide +kernel
theorem d_R_resolved_54 : decode b_R_resolved 54 = .ok (.imul, 1) := by decide +kernel
theorem d_R_resolved_55 : decode b_R_resolved 55 = .ok (.iload 4, 2) := by decide +kernel
theorem d_R_resolved_57 : decode b_R_resolved 57 = .ok (.iadd, 1) := by decide +kernel
theorem d_R_resolved_58 : decode b_R_resolved 58 = .ok (.iaload, 1) := by decide +kernel
theorem d_R_resolved_59 : decode b_R_resolved 59 = .ok (.invokevirtual 104, 3) := by decide +kernel
theorem d_R_resolved_62 : decode b_R_resolved 62 = .ok (.ifCond .eq 8, 3) := by decide +kernel
theorem d_R_resolved_65 : decode b_R_resolved 65 = .ok (.iload 5, 2) := by decide +kernel
theorem d_R_resolved_67 : decode b_R_resolved 67 = .ok (.goto 5, 3) := by decide +kernel
theorem d_R_resolved_70 : decode b_R_resolved 70 = .ok (.bipush (-5), 2) := by decide +kernel
theorem d_R_resolved_72 : decode b_R_resolved 72 = .ok (.ireturn, 1) := by decide +kernel
theorem d_R_resolved_73 : decode b_R_resolved 73 = .ok (.aload_n 0, 1) := by decide +kernel
theorem d_R_resolved_74 : decode b_R_resolved 74 = .ok (.getfield 7, 3) := by decide +kernel
theorem d_R_resolved_77 : decode b_R_resolved 77 = .ok (.iload_n 3, 1) := by decide +kernel
theorem d_R_resolved_78 : decode b_R_resolved 78 = .ok (.baload, 1) := by decide +kernel
theorem d_R_resolved_79 : decode b_R_resolved 79 = .ok (.iload_n 1, 1) := by decide +kernel
theorem d_R_resolved_80 : decode b_R_resolved 80 = .ok (.iconst 2, 1) := by decide +kernel
theorem d_R_resolved_81 : decode b_R_resolved 81 = .ok (.if_icmp .ne 7, 3) := by decide +kernel
theorem d_R_resolved_84 : decode b_R_resolved 84 = .ok (.iconst 1, 1) := by decide +kernel
theorem d_R_resolved_85 : decode b_R_resolved 85 = .ok (.goto 4, 3) := by decide +kernel
theorem d_R_resolved_88 : decode b_R_resolved 88 = .ok (.iconst 0, 1) := by decide +kernel
theorem d_R_resolved_89 : decode b_R_resolved 89 = .ok (.if_icmp .eq 6, 3) := by decide +kernel
theorem d_R_resolved_92 : decode b_R_resolved 92 = .ok (.bipush (-6), 2) := by decide +kernel
theorem d_R_resolved_94 : decode b_R_resolved 94 = .ok (.ireturn, 1) := by decide +kernel
theorem d_R_resolved_95 : decode b_R_resolved 95 = .ok (.aload_n 0, 1) := by decide +kernel
theorem d_R_resolved_96 : decode b_R_resolved 96 = .ok (.iload_n 1, 1) := by decide +kernel
theorem d_R_resolved_97 : decode b_R_resolved 97 = .ok (.iload_n 3, 1) := by decide +kernel
theorem d_R_resolved_98 : decode b_R_resolved 98 = .ok (.iload 4, 2) := by decide +kernel
theorem d_R_resolved_100 : decode b_R_resolved 100 = .ok (.invokevirtual 107, 3) := by decide +kernel
theorem d_R_resolved_103 : decode b_R_resolved 103 = .ok (.istore 5, 2) := by decide +kernel
theorem d_R_resolved_105 : decode b_R_resolved 105 = .ok (.iload 5, 2) := by decide +kernel
theorem d_R_resolved_107 : decode b_R_resolved 107 = .ok (.ifCond .ne 6, 3) := by decide +kernel
theorem d_R_resolved_110 : decode b_R_resolved 110 = .ok (.bipush (-4), 2) := by decide +kernel
theorem d_R_resolved_112 : decode b_R_resolved 112 = .ok (.ireturn, 1) := by decide +kernel
theorem d_R_resolved_113 : decode b_R_resolved 113 = .ok (.aload_n 0, 1) := by decide +kernel
theorem d_R_resolved_114 : decode b_R_resolved 114 = .ok (.iload_n 2, 1) := by decide +kernel
theorem d_R_resolved_115 : decode b_R_resolved 115 = .ok (.iload 5, 2) := by decide +kernel
theorem d_R_resolved_117 : decode b_R_resolved 117 = .ok (.aload_n 0, 1) := by decide +kernel
theorem d_R_resolved_118 : decode b_R_resolved 118 = .ok (.getfield 38, 3) := by decide +kernel
theorem d_R_resolved_121 : decode b_R_resolved 121 = .ok (.iconst 4, 1) := by decide +kernel
theorem d_R_resolved_122 : decode b_R_resolved 122 = .ok (.iload 5, 2) := by decide +kernel
theorem d_R_resolved_124 : decode b_R_resolved 124 = .ok (.imul, 1) := by decide +kernel
theorem d_R_resolved_125 : decode b_R_resolved 125 = .ok (.iload 4, 2) := by decide +kernel
theorem d_R_resolved_127 : decode b_R_resolved 127 = .ok (.iadd, 1) := by decide +kernel
theorem d_R_resolved_128 : decode b_R_resolved 128 = .ok (.iaload, 1) := by decide +kernel
theorem d_R_resolved_129 : decode b_R_resolved 129 = .ok (.invokevirtual 104, 3) := by decide +kernel
theorem d_R_resolved_132 : decode b_R_resolved 132 = .ok (.ifCond .eq 8, 3) := by decide +kernel
theorem d_R_resolved_135 : decode b_R_resolved 135 = .ok (.iload 5, 2) := by decide +kernel
theorem d_R_resolved_137 : decode b_R_resolved 137 = .ok (.goto 5, 3) := by decide +kernel
theorem d_R_resolved_140 : decode b_R_resolved 140 = .ok (.bipush (-5), 2) := by decide +kernel
theorem d_R_resolved_142 : decode b_R_resolved 142 = .ok (.ireturn, 1) := by decide +kernel
theorem d_R_resolve_0 : decode b_R_resolve 0 = .ok (.iload_n 1, 1) := by decide +kernel
theorem d_R_resolve_1 : decode b_R_resolve 1 = .ok (.iconst 0, 1) := by decide +kernel
theorem d_R_resolve_2 : decode b_R_resolve 2 = .ok (.iconst 2, 1) := by decide +kernel
theorem d_R_resolve_3 : decode b_R_resolve 3 = .ok (.invokestatic 54, 3) := by decide +kernel
theorem d_R_resolve_6 : decode b_R_resolve 6 = .ok (.ifCond .eq 29, 3) := by decide +kernel
theorem d_R_resolve_9 : decode b_R_resolve 9 = .ok (.aload_n 0, 1) := by decide +kernel
theorem d_R_resolve_10 : decode b_R_resolve 10 = .ok (.iload_n 2, 1) := by decide +kernel
theorem d_R_resolve_11 : decode b_R_resolve 11 = .ok (.invokevirtual 58, 3) := by decide +kernel
theorem d_R_resolve_14 : decode b_R_resolve 14 = .ok (.ifCond .eq 21, 3) := by decide +kernel
theorem d_R_resolve_17 : decode b_R_resolve 17 = .ok (.aload_n 0, 1) := by decide +kernel
theorem d_R_resolve_18 : decode b_R_resolve 18 = .ok (.iload_n 3, 1) := by decide +kernel
theorem d_R_resolve_19 : decode b_R_resolve 19 = .ok (.invokevirtual 58, 3) := by decide +kernel
theorem d_R_resolve_22 : decode b_R_resolve 22 = .ok (.ifCond .eq 13, 3) := by decide +kernel
theorem d_R_resolve_25 : decode b_R_resolve 25 = .ok (.iload 4, 2) := by decide +kernel
theorem d_R_resolve_27 : decode b_R_resolve 27 = .ok (.iconst 0, 1) := by decide +kernel
theorem d_R_resolve_28 : decode b_R_resolve 28 = .ok (.iconst 3, 1) := by decide +kernel
theorem d_R_resolve_29 : decode b_R_resolve 29 = .ok (.invokestatic 54, 3) := by decide +kernel
theorem d_R_resolve_32 : decode b_R_resolve 32 = .ok (.ifCond .ne 5, 3) := by decide +kernel
theorem d_R_resolve_35 : decode b_R_resolve 35 = .ok (.iconst (-1), 1) := by decide +kernel
theorem d_R_resolve_36 : decode b_R_resolve 36 = .ok (.ireturn, 1) := by decide +kernel
theorem d_R_resolve_37 : decode b_R_resolve 37 = .ok (.aload_n 0, 1) := by decide +kernel
theorem d_R_resolve_38 : decode b_R_resolve 38 = .ok (.invokevirtual 111, 3) := by decide +kernel
theorem d_R_resolve_41 : decode b_R_resolve 41 = .ok (.aload_n 0, 1) := by decide +kernel
theorem d_R_resolve_42 : decode b_R_resolve 42 = .ok (.iload_n 1, 1) := by decide +kernel
theorem d_R_resolve_43 : decode b_R_resolve 43 = .ok (.iload_n 2, 1) := by decide +kernel
theorem d_R_resolve_44 : decode b_R_resolve 44 = .ok (.iload_n 3, 1) := by decide +kernel
theorem d_R_resolve_45 : decode b_R_resolve 45 = .ok (.iload 4, 2) := by decide +kernel
theorem d_R_resolve_47 : decode b_R_resolve 47 = .ok (.invokevirtual 114, 3) := by decide +kernel
theorem d_R_resolve_50 : decode b_R_resolve 50 = .ok (.ireturn, 1) := by decide +kernel
theorem d_R_choices_0 : decode b_R_choices 0 = .ok (.aload_n 0, 1) := by decide +kernel
theorem d_R_choices_1 : decode b_R_choices 1 = .ok (.getfield 92, 3) := by decide +kernel
theorem d_R_choices_4 : decode b_R_choices 4 = .ok (.ireturn, 1) := by decide +kernel
theorem d_R_use_0 : decode b_R_use 0 = .ok (.aload_n 0, 1) := by decide +kernel
theorem d_R_use_1 : decode b_R_use 1 = .ok (.iload_n 1, 1) := by decide +kernel
theorem d_R_use_2 : decode b_R_use 2 = .ok (.invokevirtual 58, 3) := by decide +kernel
theorem d_R_use_5 : decode b_R_use 5 = .ok (.ifCond .eq 20, 3) := by decide +kernel
theorem d_R_use_8 : decode b_R_use 8 = .ok (.aload_n 0, 1) := by decide +kernel
theorem d_R_use_9 : decode b_R_use 9 = .ok (.iload_n 2, 1) := by decide +kernel
theorem d_R_use_10 : decode b_R_use 10 = .ok (.invokevirtual 58, 3) := by decide +kernel
theorem d_R_use_13 : decode b_R_use 13 = .ok (.ifCond .eq 12, 3) := by decide +kernel
theorem d_R_use_16 : decode b_R_use 16 = .ok (.iload_n 3, 1) := by decide +kernel
theorem d_R_use_17 : decode b_R_use 17 = .ok (.iconst 0, 1) := by decide +kernel
theorem d_R_use_18 : decode b_R_use 18 = .ok (.iconst 3, 1) := by decide +kernel
theorem d_R_use_19 : decode b_R_use 19 = .ok (.invokestatic 54, 3) := by decide +kernel
theorem d_R_use_22 : decode b_R_use 22 = .ok (.ifCond .ne 5, 3) := by decide +kernel
theorem d_R_use_25 : decode b_R_use 25 = .ok (.iconst (-1), 1) := by decide +kernel
theorem d_R_use_26 : decode b_R_use 26 = .ok (.ireturn, 1) := by decide +kernel
theorem d_R_use_27 : decode b_R_use 27 = .ok (.aload_n 0, 1) := by decide +kernel
theorem d_R_use_28 : decode b_R_use 28 = .ok (.invokevirtual 111, 3) := by decide +kernel
theorem d_R_use_31 : decode b_R_use 31 = .ok (.aload_n 0, 1) := by decide +kernel
theorem d_R_use_32 : decode b_R_use 32 = .ok (.getfield 92, 3) := by decide +kernel
theorem d_R_use_35 : decode b_R_use 35 = .ok (.istore 5, 2) := by decide +kernel
theorem d_R_use_37 : decode b_R_use 37 = .ok (.aload_n 0, 1) := by decide +kernel
theorem d_R_use_38 : decode b_R_use 38 = .ok (.iconst 0, 1) := by decide +kernel
theorem d_R_use_39 : decode b_R_use 39 = .ok (.iload_n 1, 1) := by decide +kernel
theorem d_R_use_40 : decode b_R_use 40 = .ok (.iload_n 2, 1) := by decide +kernel
theorem d_R_use_41 : decode b_R_use 41 = .ok (.iload_n 3, 1) := by decide +kernel
theorem d_R_use_42 : decode b_R_use 42 = .ok (.invokevirtual 114, 3) := by decide +kernel
theorem d_R_use_45 : decode b_R_use 45 = .ok (.istore 6, 2) := by decide +kernel
theorem d_R_use_47 : decode b_R_use 47 = .ok (.aload_n 0, 1) := by decide +kernel
theorem d_R_use_48 : decode b_R_use 48 = .ok (.iload 5, 2) := by decide +kernel
theorem d_R_use_50 : decode b_R_use 50 = .ok (.putfield 92, 3) := by decide +kernel
theorem d_R_use_53 : decode b_R_use 53 = .ok (.iload 6, 2) := by decide +kernel
theorem d_R_use_55 : decode b_R_use 55 = .ok (.ifCond .le 33, 3) := by decide +kernel
theorem d_R_use_58 : decode b_R_use 58 = .ok (.aload_n 0, 1) := by decide +kernel
theorem d_R_use_59 : decode b_R_use 59 = .ok (.getfield 35, 3) := by decide +kernel
theorem d_R_use_62 : decode b_R_use 62 = .ok (.iconst 4, 1) := by decide +kernel
theorem d_R_use_63 : decode b_R_use 63 = .ok (.iload 6, 2) := by decide +kernel
theorem d_R_use_65 : decode b_R_use 65 = .ok (.imul, 1) := by decide +kernel
theorem d_R_use_66 : decode b_R_use 66 = .ok (.iload_n 3, 1) := by decide +kernel
theorem d_R_use_67 : decode b_R_use 67 = .ok (.iadd, 1) := by decide +kernel
theorem d_R_use_68 : decode b_R_use 68 = .ok (.iaload, 1) := by decide +kernel
theorem d_R_use_69 : decode b_R_use 69 = .ok (.iconst 4, 1) := by decide +kernel
theorem d_R_use_70 : decode b_R_use 70 = .ok (.if_icmp .lt 7, 3) := by decide +kernel
theorem d_R_use_73 : decode b_R_use 73 = .ok (.iconst 1, 1) := by decide +kernel
theorem d_R_use_74 : decode b_R_use 74 = .ok (.goto 4, 3) := by decide +kernel
theorem d_R_use_77 : decode b_R_use 77 = .ok (.iconst 0, 1) := by decide +kernel
theorem d_R_use_78 : decode b_R_use 78 = .ok (.iload 4, 2) := by decide +kernel
theorem d_R_use_80 : decode b_R_use 80 = .ok (.if_icmp .eq 8, 3) := by decide +kernel
theorem d_R_use_83 : decode b_R_use 83 = .ok (.bipush (-6), 2) := by decide +kernel
theorem d_R_use_85 : decode b_R_use 85 = .ok (.goto 5, 3) := by decide +kernel
theorem d_R_use_88 : decode b_R_use 88 = .ok (.iload 6, 2) := by decide +kernel
theorem d_R_use_90 : decode b_R_use 90 = .ok (.ireturn, 1) := by decide +kernel
theorem d_R_fillCan_0 : decode b_R_fillCan 0 = .ok (.aload_n 0, 1) := by decide +kernel
theorem d_R_fillCan_1 : decode b_R_fillCan 1 = .ok (.invokevirtual 111, 3) := by decide +kernel
theorem d_R_fillCan_4 : decode b_R_fillCan 4 = .ok (.iconst 1, 1) := by decide +kernel
theorem d_R_fillCan_5 : decode b_R_fillCan 5 = .ok (.istore_n 2, 1) := by decide +kernel
theorem d_R_fillCan_6 : decode b_R_fillCan 6 = .ok (.iload_n 2, 1) := by decide +kernel
theorem d_R_fillCan_7 : decode b_R_fillCan 7 = .ok (.aload_n 0, 1) := by decide +kernel
theorem d_R_fillCan_8 : decode b_R_fillCan 8 = .ok (.getfield 50, 3) := by decide +kernel
theorem d_R_fillCan_11 : decode b_R_fillCan 11 = .ok (.if_icmp .gt 42, 3) := by decide +kernel
theorem d_R_fillCan_14 : decode b_R_fillCan 14 = .ok (.aload_n 0, 1) := by decide +kernel
theorem d_R_fillCan_15 : decode b_R_fillCan 15 = .ok (.getfield 50, 3) := by decide +kernel
theorem d_R_fillCan_18 : decode b_R_fillCan 18 = .ok (.istore_n 3, 1) := by decide +kernel
theorem d_R_fillCan_19 : decode b_R_fillCan 19 = .ok (.iload_n 3, 1) := by decide +kernel
theorem d_R_fillCan_20 : decode b_R_fillCan 20 = .ok (.ifCond .le 27, 3) := by decide +kernel
theorem d_R_fillCan_23 : decode b_R_fillCan 23 = .ok (.aload_n 0, 1) := by decide +kernel
theorem d_R_fillCan_24 : decode b_R_fillCan 24 = .ok (.getfield 44, 3) := by decide +kernel
theorem d_R_fillCan_27 : decode b_R_fillCan 27 = .ok (.bipush 13, 2) := by decide +kernel
theorem d_R_fillCan_29 : decode b_R_fillCan 29 = .ok (.iload_n 2, 1) := by decide +kernel
theorem d_R_fillCan_30 : decode b_R_fillCan 30 = .ok (.imul, 1) := by decide +kernel
theorem d_R_fillCan_31 : decode b_R_fillCan 31 = .ok (.iload_n 3, 1) := by decide +kernel
theorem d_R_fillCan_32 : decode b_R_fillCan 32 = .ok (.iadd, 1) := by decide +kernel
theorem d_R_fillCan_33 : decode b_R_fillCan 33 = .ok (.aload_n 0, 1) := by decide +kernel
theorem d_R_fillCan_34 : decode b_R_fillCan 34 = .ok (.iload_n 2, 1) := by decide +kernel
theorem d_R_fillCan_35 : decode b_R_fillCan 35 = .ok (.iload_n 3, 1) := by decide +kernel
theorem d_R_fillCan_36 : decode b_R_fillCan 36 = .ok (.iload_n 1, 1) := by decide +kernel
theorem d_R_fillCan_37 : decode b_R_fillCan 37 = .ok (.invokevirtual 118, 3) := by decide +kernel
theorem d_R_fillCan_40 : decode b_R_fillCan 40 = .ok (.bastore, 1) := by decide +kernel
theorem d_R_fillCan_41 : decode b_R_fillCan 41 = .ok (.iinc 3 (-1), 3) := by decide +kernel
theorem d_R_fillCan_44 : decode b_R_fillCan 44 = .ok (.goto (-25), 3) := by decide +kernel
theorem d_R_fillCan_47 : decode b_R_fillCan 47 = .ok (.iinc 2 1, 3) := by decide +kernel
theorem d_R_fillCan_50 : decode b_R_fillCan 50 = .ok (.goto (-44), 3) := by decide +kernel
theorem d_R_fillCan_53 : decode b_R_fillCan 53 = .ok (.return_, 1) := by decide +kernel
theorem d_R_overriding_0 : decode b_R_overriding 0 = .ok (.aload_n 0, 1) := by decide +kernel
theorem d_R_overriding_1 : decode b_R_overriding 1 = .ok (.iload_n 1, 1) := by decide +kernel
theorem d_R_overriding_2 : decode b_R_overriding 2 = .ok (.iload_n 3, 1) := by decide +kernel
theorem d_R_overriding_3 : decode b_R_overriding 3 = .ok (.invokevirtual 70, 3) := by decide +kernel
theorem d_R_overriding_6 : decode b_R_overriding 6 = .ok (.ifCond .eq 39, 3) := by decide +kernel
theorem d_R_overriding_9 : decode b_R_overriding 9 = .ok (.aload_n 0, 1) := by decide +kernel
theorem d_R_overriding_10 : decode b_R_overriding 10 = .ok (.iload_n 2, 1) := by decide +kernel
theorem d_R_overriding_11 : decode b_R_overriding 11 = .ok (.iload_n 3, 1) := by decide +kernel
theorem d_R_overriding_12 : decode b_R_overriding 12 = .ok (.invokevirtual 70, 3) := by decide +kernel
theorem d_R_overriding_15 : decode b_R_overriding 15 = .ok (.ifCond .eq 30, 3) := by decide +kernel
theorem d_R_overriding_18 : decode b_R_overriding 18 = .ok (.aload_n 0, 1) := by decide +kernel
theorem d_R_overriding_19 : decode b_R_overriding 19 = .ok (.iload_n 1, 1) := by decide +kernel
theorem d_R_overriding_20 : decode b_R_overriding 20 = .ok (.iload_n 3, 1) := by decide +kernel
theorem d_R_overriding_21 : decode b_R_overriding 21 = .ok (.invokevirtual 73, 3) := by decide +kernel
theorem d_R_overriding_24 : decode b_R_overriding 24 = .ok (.ifCond .ne 21, 3) := by decide +kernel
theorem d_R_overriding_27 : decode b_R_overriding 27 = .ok (.aload_n 0, 1) := by decide +kernel
theorem d_R_overriding_28 : decode b_R_overriding 28 = .ok (.iload_n 2, 1) := by decide +kernel
theorem d_R_overriding_29 : decode b_R_overriding 29 = .ok (.iload_n 3, 1) := by decide +kernel
theorem d_R_overriding_30 : decode b_R_overriding 30 = .ok (.invokevirtual 73, 3) := by decide +kernel
theorem d_R_overriding_33 : decode b_R_overriding 33 = .ok (.ifCond .ne 12, 3) := by decide +kernel
theorem d_R_overriding_36 : decode b_R_overriding 36 = .ok (.aload_n 0, 1) := by decide +kernel
theorem d_R_overriding_37 : decode b_R_overriding 37 = .ok (.iload_n 1, 1) := by decide +kernel
theorem d_R_overriding_38 : decode b_R_overriding 38 = .ok (.iload_n 2, 1) := by decide +kernel
theorem d_R_overriding_39 : decode b_R_overriding 39 = .ok (.invokevirtual 66, 3) := by decide +kernel
theorem d_R_overriding_42 : decode b_R_overriding 42 = .ok (.ifCond .ne 5, 3) := by decide +kernel
theorem d_R_overriding_45 : decode b_R_overriding 45 = .ok (.iconst 0, 1) := by decide +kernel
theorem d_R_overriding_46 : decode b_R_overriding 46 = .ok (.ireturn, 1) := by decide +kernel
theorem d_R_overriding_47 : decode b_R_overriding 47 = .ok (.iload_n 1, 1) := by decide +kernel
theorem d_R_overriding_48 : decode b_R_overriding 48 = .ok (.iload_n 2, 1) := by decide +kernel
theorem d_R_overriding_49 : decode b_R_overriding 49 = .ok (.if_icmp .ne 5, 3) := by decide +kernel
theorem d_R_overriding_52 : decode b_R_overriding 52 = .ok (.iconst 1, 1) := by decide +kernel
theorem d_R_overriding_53 : decode b_R_overriding 53 = .ok (.ireturn, 1) := by decide +kernel
theorem d_R_overriding_54 : decode b_R_overriding 54 = .ok (.aload_n 0, 1) := by decide +kernel
theorem d_R_overriding_55 : decode b_R_overriding 55 = .ok (.getfield 38, 3) := by decide +kernel
theorem d_R_overriding_58 : decode b_R_overriding 58 = .ok (.iconst 4, 1) := by decide +kernel
theorem d_R_overriding_59 : decode b_R_overriding 59 = .ok (.iload_n 2, 1) := by decide +kernel
theorem d_R_overriding_60 : decode b_R_overriding 60 = .ok (.imul, 1) := by decide +kernel
theorem d_R_overriding_61 : decode b_R_overriding 61 = .ok (.iload_n 3, 1) := by decide +kernel
theorem d_R_overriding_62 : decode b_R_overriding 62 = .ok (.iadd, 1) := by decide +kernel
theorem d_R_overriding_63 : decode b_R_overriding 63 = .ok (.iaload, 1) := by decide +kernel
theorem d_R_overriding_64 : decode b_R_overriding 64 = .ok (.iconst 3, 1) := by decide +kernel
theorem d_R_overriding_65 : decode b_R_overriding 65 = .ok (.iand, 1) := by decide +kernel
theorem d_R_overriding_66 : decode b_R_overriding 66 = .ok (.istore 4, 2) := by decide +kernel
theorem d_R_overriding_68 : decode b_R_overriding 68 = .ok (.aload_n 0, 1) := by decide +kernel
theorem d_R_overriding_69 : decode b_R_overriding 69 = .ok (.iload_n 1, 1) := by decide +kernel
theorem d_R_overriding_70 : decode b_R_overriding 70 = .ok (.iload_n 3, 1) := by decide +kernel
theorem d_R_overriding_71 : decode b_R_overriding 71 = .ok (.invokevirtual 76, 3) := by decide +kernel
theorem d_R_overriding_74 : decode b_R_overriding 74 = .ok (.ifCond .ne 8, 3) := by decide +kernel
theorem d_R_overriding_77 : decode b_R_overriding 77 = .ok (.iload 4, 2) := by decide +kernel
theorem d_R_overriding_79 : decode b_R_overriding 79 = .ok (.ifCond .ne 5, 3) := by decide +kernel
theorem d_R_overriding_82 : decode b_R_overriding 82 = .ok (.iconst 0, 1) := by decide +kernel
theorem d_R_overriding_83 : decode b_R_overriding 83 = .ok (.ireturn, 1) := by decide +kernel
theorem d_R_overriding_84 : decode b_R_overriding 84 = .ok (.iload 4, 2) := by decide +kernel
theorem d_R_overriding_86 : decode b_R_overriding 86 = .ok (.iconst 1, 1) := by decide +kernel
theorem d_R_overriding_87 : decode b_R_overriding 87 = .ok (.if_icmp .gt 18, 3) := by decide +kernel
theorem d_R_overriding_90 : decode b_R_overriding 90 = .ok (.aload_n 0, 1) := by decide +kernel
theorem d_R_overriding_91 : decode b_R_overriding 91 = .ok (.getfield 19, 3) := by decide +kernel
theorem d_R_overriding_94 : decode b_R_overriding 94 = .ok (.iload_n 1, 1) := by decide +kernel
theorem d_R_overriding_95 : decode b_R_overriding 95 = .ok (.iaload, 1) := by decide +kernel
theorem d_R_overriding_96 : decode b_R_overriding 96 = .ok (.aload_n 0, 1) := by decide +kernel
theorem d_R_overriding_97 : decode b_R_overriding 97 = .ok (.getfield 19, 3) := by decide +kernel
theorem d_R_overriding_100 : decode b_R_overriding 100 = .ok (.iload_n 2, 1) := by decide +kernel
theorem d_R_overriding_101 : decode b_R_overriding 101 = .ok (.iaload, 1) := by decide +kernel
theorem d_R_overriding_102 : decode b_R_overriding 102 = .ok (.if_icmp .ne 5, 3) := by decide +kernel
theorem d_R_overriding_105 : decode b_R_overriding 105 = .ok (.iconst 1, 1) := by decide +kernel
theorem d_R_overriding_106 : decode b_R_overriding 106 = .ok (.ireturn, 1) := by decide +kernel
theorem d_R_overriding_107 : decode b_R_overriding 107 = .ok (.aload_n 0, 1) := by decide +kernel
theorem d_R_overriding_108 : decode b_R_overriding 108 = .ok (.getfield 23, 3) := by decide +kernel
theorem d_R_overriding_111 : decode b_R_overriding 111 = .ok (.iload_n 1, 1) := by decide +kernel
theorem d_R_overriding_112 : decode b_R_overriding 112 = .ok (.iaload, 1) := by decide +kernel
theorem d_R_overriding_113 : decode b_R_overriding 113 = .ok (.istore 5, 2) := by decide +kernel
theorem d_R_overriding_115 : decode b_R_overriding 115 = .ok (.iload 5, 2) := by decide +kernel
theorem d_R_overriding_117 : decode b_R_overriding 117 = .ok (.ifCond .le 53, 3) := by decide +kernel
theorem d_R_overriding_120 : decode b_R_overriding 120 = .ok (.iload 5, 2) := by decide +kernel
theorem d_R_overriding_122 : decode b_R_overriding 122 = .ok (.iload_n 2, 1) := by decide +kernel
theorem d_R_overriding_123 : decode b_R_overriding 123 = .ok (.if_icmp .eq 47, 3) := by decide +kernel
theorem d_R_overriding_126 : decode b_R_overriding 126 = .ok (.aload_n 0, 1) := by decide +kernel
theorem d_R_overriding_127 : decode b_R_overriding 127 = .ok (.getfield 44, 3) := by decide +kernel
theorem d_R_overriding_130 : decode b_R_overriding 130 = .ok (.bipush 13, 2) := by decide +kernel
theorem d_R_overriding_132 : decode b_R_overriding 132 = .ok (.iload 5, 2) := by decide +kernel
theorem d_R_overriding_134 : decode b_R_overriding 134 = .ok (.imul, 1) := by decide +kernel
