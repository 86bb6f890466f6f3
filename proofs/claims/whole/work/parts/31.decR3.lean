theorem d_R_overriding_135 : decode b_R_overriding 135 = .ok (.iload_n 2, 1) := by decide +kernel
theorem d_R_overriding_136 : decode b_R_overriding 136 = .ok (.iadd, 1) := by decide +kernel
theorem d_R_overriding_137 : decode b_R_overriding 137 = .ok (.baload, 1) := by decide +kernel
theorem d_R_overriding_138 : decode b_R_overriding 138 = .ok (.ifCond .eq 20, 3) := by decide +kernel
theorem d_R_overriding_141 : decode b_R_overriding 141 = .ok (.aload_n 0, 1) := by decide +kernel
theorem d_R_overriding_142 : decode b_R_overriding 142 = .ok (.getfield 44, 3) := by decide +kernel
theorem d_R_overriding_145 : decode b_R_overriding 145 = .ok (.bipush 13, 2) := by decide +kernel
theorem d_R_overriding_147 : decode b_R_overriding 147 = .ok (.iload_n 1, 1) := by decide +kernel
theorem d_R_overriding_148 : decode b_R_overriding 148 = .ok (.imul, 1) := by decide +kernel
theorem d_R_overriding_149 : decode b_R_overriding 149 = .ok (.iload 5, 2) := by decide +kernel
theorem d_R_overriding_151 : decode b_R_overriding 151 = .ok (.iadd, 1) := by decide +kernel
theorem d_R_overriding_152 : decode b_R_overriding 152 = .ok (.baload, 1) := by decide +kernel
theorem d_R_overriding_153 : decode b_R_overriding 153 = .ok (.ifCond .eq 5, 3) := by decide +kernel
theorem d_R_overriding_156 : decode b_R_overriding 156 = .ok (.iconst 1, 1) := by decide +kernel
theorem d_R_overriding_157 : decode b_R_overriding 157 = .ok (.ireturn, 1) := by decide +kernel
theorem d_R_overriding_158 : decode b_R_overriding 158 = .ok (.aload_n 0, 1) := by decide +kernel
theorem d_R_overriding_159 : decode b_R_overriding 159 = .ok (.getfield 23, 3) := by decide +kernel
theorem d_R_overriding_162 : decode b_R_overriding 162 = .ok (.iload 5, 2) := by decide +kernel
theorem d_R_overriding_164 : decode b_R_overriding 164 = .ok (.iaload, 1) := by decide +kernel
theorem d_R_overriding_165 : decode b_R_overriding 165 = .ok (.istore 5, 2) := by decide +kernel
theorem d_R_overriding_167 : decode b_R_overriding 167 = .ok (.goto (-52), 3) := by decide +kernel
theorem d_R_overriding_170 : decode b_R_overriding 170 = .ok (.iconst 0, 1) := by decide +kernel
theorem d_R_overriding_171 : decode b_R_overriding 171 = .ok (.ireturn, 1) := by decide +kernel
theorem d_R_selected_0 : decode b_R_selected 0 = .ok (.aload_n 0, 1) := by decide +kernel
theorem d_R_selected_1 : decode b_R_selected 1 = .ok (.iload_n 2, 1) := by decide +kernel
theorem d_R_selected_2 : decode b_R_selected 2 = .ok (.iload_n 3, 1) := by decide +kernel
theorem d_R_selected_3 : decode b_R_selected 3 = .ok (.invokevirtual 76, 3) := by decide +kernel
theorem d_R_selected_6 : decode b_R_selected 6 = .ok (.ifCond .eq 5, 3) := by decide +kernel
theorem d_R_selected_9 : decode b_R_selected 9 = .ok (.iload_n 2, 1) := by decide +kernel
theorem d_R_selected_10 : decode b_R_selected 10 = .ok (.ireturn, 1) := by decide +kernel
theorem d_R_selected_11 : decode b_R_selected 11 = .ok (.aload_n 0, 1) := by decide +kernel
theorem d_R_selected_12 : decode b_R_selected 12 = .ok (.iload_n 3, 1) := by decide +kernel
theorem d_R_selected_13 : decode b_R_selected 13 = .ok (.invokevirtual 121, 3) := by decide +kernel
theorem d_R_selected_16 : decode b_R_selected 16 = .ok (.iload_n 1, 1) := by decide +kernel
theorem d_R_selected_17 : decode b_R_selected 17 = .ok (.istore 4, 2) := by decide +kernel
theorem d_R_selected_19 : decode b_R_selected 19 = .ok (.iload 4, 2) := by decide +kernel
theorem d_R_selected_21 : decode b_R_selected 21 = .ok (.ifCond .le 33, 3) := by decide +kernel
theorem d_R_selected_24 : decode b_R_selected 24 = .ok (.aload_n 0, 1) := by decide +kernel
theorem d_R_selected_25 : decode b_R_selected 25 = .ok (.getfield 44, 3) := by decide +kernel
theorem d_R_selected_28 : decode b_R_selected 28 = .ok (.bipush 13, 2) := by decide +kernel
theorem d_R_selected_30 : decode b_R_selected 30 = .ok (.iload 4, 2) := by decide +kernel
theorem d_R_selected_32 : decode b_R_selected 32 = .ok (.imul, 1) := by decide +kernel
theorem d_R_selected_33 : decode b_R_selected 33 = .ok (.iload_n 2, 1) := by decide +kernel
theorem d_R_selected_34 : decode b_R_selected 34 = .ok (.iadd, 1) := by decide +kernel
theorem d_R_selected_35 : decode b_R_selected 35 = .ok (.baload, 1) := by decide +kernel
theorem d_R_selected_36 : decode b_R_selected 36 = .ok (.ifCond .eq 6, 3) := by decide +kernel
theorem d_R_selected_39 : decode b_R_selected 39 = .ok (.iload 4, 2) := by decide +kernel
theorem d_R_selected_41 : decode b_R_selected 41 = .ok (.ireturn, 1) := by decide +kernel
theorem d_R_selected_42 : decode b_R_selected 42 = .ok (.aload_n 0, 1) := by decide +kernel
theorem d_R_selected_43 : decode b_R_selected 43 = .ok (.getfield 23, 3) := by decide +kernel
theorem d_R_selected_46 : decode b_R_selected 46 = .ok (.iload 4, 2) := by decide +kernel
theorem d_R_selected_48 : decode b_R_selected 48 = .ok (.iaload, 1) := by decide +kernel
theorem d_R_selected_49 : decode b_R_selected 49 = .ok (.istore 4, 2) := by decide +kernel
theorem d_R_selected_51 : decode b_R_selected 51 = .ok (.goto (-32), 3) := by decide +kernel
theorem d_R_selected_54 : decode b_R_selected 54 = .ok (.aload_n 0, 1) := by decide +kernel
theorem d_R_selected_55 : decode b_R_selected 55 = .ok (.aload_n 0, 1) := by decide +kernel
theorem d_R_selected_56 : decode b_R_selected 56 = .ok (.iload_n 1, 1) := by decide +kernel
theorem d_R_selected_57 : decode b_R_selected 57 = .ok (.iload_n 3, 1) := by decide +kernel
theorem d_R_selected_58 : decode b_R_selected 58 = .ok (.invokevirtual 86, 3) := by decide +kernel
theorem d_R_selected_61 : decode b_R_selected 61 = .ok (.iload_n 3, 1) := by decide +kernel
theorem d_R_selected_62 : decode b_R_selected 62 = .ok (.invokevirtual 125, 3) := by decide +kernel
theorem d_R_selected_65 : decode b_R_selected 65 = .ok (.ireturn, 1) := by decide +kernel
theorem d_R_coded_0 : decode b_R_coded 0 = .ok (.aload_n 0, 1) := by decide +kernel
theorem d_R_coded_1 : decode b_R_coded 1 = .ok (.iload_n 1, 1) := by decide +kernel
theorem d_R_coded_2 : decode b_R_coded 2 = .ok (.iload_n 2, 1) := by decide +kernel
theorem d_R_coded_3 : decode b_R_coded 3 = .ok (.invokevirtual 89, 3) := by decide +kernel
theorem d_R_coded_6 : decode b_R_coded 6 = .ok (.istore_n 3, 1) := by decide +kernel
theorem d_R_coded_7 : decode b_R_coded 7 = .ok (.iload_n 3, 1) := by decide +kernel
theorem d_R_coded_8 : decode b_R_coded 8 = .ok (.ifCond .le 7, 3) := by decide +kernel
theorem d_R_coded_11 : decode b_R_coded 11 = .ok (.iload_n 3, 1) := by decide +kernel
theorem d_R_coded_12 : decode b_R_coded 12 = .ok (.goto 14, 3) := by decide +kernel
theorem d_R_coded_15 : decode b_R_coded 15 = .ok (.iload_n 3, 1) := by decide +kernel
theorem d_R_coded_16 : decode b_R_coded 16 = .ok (.ifCond .ne 8, 3) := by decide +kernel
theorem d_R_coded_19 : decode b_R_coded 19 = .ok (.bipush (-7), 2) := by decide +kernel
theorem d_R_coded_21 : decode b_R_coded 21 = .ok (.goto 5, 3) := by decide +kernel
theorem d_R_coded_24 : decode b_R_coded 24 = .ok (.bipush (-6), 2) := by decide +kernel
theorem d_R_coded_26 : decode b_R_coded 26 = .ok (.ireturn, 1) := by decide +kernel
theorem d_R_withCode_0 : decode b_R_withCode 0 = .ok (.iload_n 1, 1) := by decide +kernel
theorem d_R_withCode_1 : decode b_R_withCode 1 = .ok (.ifCond .le 17, 3) := by decide +kernel
theorem d_R_withCode_4 : decode b_R_withCode 4 = .ok (.aload_n 0, 1) := by decide +kernel
theorem d_R_withCode_5 : decode b_R_withCode 5 = .ok (.iload_n 1, 1) := by decide +kernel
theorem d_R_withCode_6 : decode b_R_withCode 6 = .ok (.iload_n 2, 1) := by decide +kernel
theorem d_R_withCode_7 : decode b_R_withCode 7 = .ok (.invokevirtual 83, 3) := by decide +kernel
theorem d_R_withCode_10 : decode b_R_withCode 10 = .ok (.ifCond .eq 8, 3) := by decide +kernel
theorem d_R_withCode_13 : decode b_R_withCode 13 = .ok (.bipush (-7), 2) := by decide +kernel
theorem d_R_withCode_15 : decode b_R_withCode 15 = .ok (.goto 4, 3) := by decide +kernel
theorem d_R_withCode_18 : decode b_R_withCode 18 = .ok (.iload_n 1, 1) := by decide +kernel
theorem d_R_withCode_19 : decode b_R_withCode 19 = .ok (.ireturn, 1) := by decide +kernel
theorem d_R_special_0 : decode b_R_special 0 = .ok (.aload_n 0, 1) := by decide +kernel
theorem d_R_special_1 : decode b_R_special 1 = .ok (.getfield 7, 3) := by decide +kernel
theorem d_R_special_4 : decode b_R_special 4 = .ok (.iload_n 2, 1) := by decide +kernel
theorem d_R_special_5 : decode b_R_special 5 = .ok (.baload, 1) := by decide +kernel
theorem d_R_special_6 : decode b_R_special 6 = .ok (.ifCond .ne 35, 3) := by decide +kernel
theorem d_R_special_9 : decode b_R_special 9 = .ok (.aload_n 0, 1) := by decide +kernel
theorem d_R_special_10 : decode b_R_special 10 = .ok (.getfield 7, 3) := by decide +kernel
theorem d_R_special_13 : decode b_R_special 13 = .ok (.iload_n 1, 1) := by decide +kernel
theorem d_R_special_14 : decode b_R_special 14 = .ok (.baload, 1) := by decide +kernel
theorem d_R_special_15 : decode b_R_special 15 = .ok (.ifCond .ne 26, 3) := by decide +kernel
theorem d_R_special_18 : decode b_R_special 18 = .ok (.iload_n 1, 1) := by decide +kernel
theorem d_R_special_19 : decode b_R_special 19 = .ok (.iload_n 2, 1) := by decide +kernel
theorem d_R_special_20 : decode b_R_special 20 = .ok (.if_icmp .eq 21, 3) := by decide +kernel
theorem d_R_special_23 : decode b_R_special 23 = .ok (.aload_n 0, 1) := by decide +kernel
theorem d_R_special_24 : decode b_R_special 24 = .ok (.iload_n 2, 1) := by decide +kernel
theorem d_R_special_25 : decode b_R_special 25 = .ok (.iload_n 1, 1) := by decide +kernel
theorem d_R_special_26 : decode b_R_special 26 = .ok (.invokevirtual 66, 3) := by decide +kernel
theorem d_R_special_29 : decode b_R_special 29 = .ok (.ifCond .eq 12, 3) := by decide +kernel
theorem d_R_special_32 : decode b_R_special 32 = .ok (.aload_n 0, 1) := by decide +kernel
theorem d_R_special_33 : decode b_R_special 33 = .ok (.getfield 23, 3) := by decide +kernel
theorem d_R_special_36 : decode b_R_special 36 = .ok (.iload_n 2, 1) := by decide +kernel
theorem d_R_special_37 : decode b_R_special 37 = .ok (.iaload, 1) := by decide +kernel
theorem d_R_special_38 : decode b_R_special 38 = .ok (.goto 4, 3) := by decide +kernel
theorem d_R_special_41 : decode b_R_special 41 = .ok (.iload_n 1, 1) := by decide +kernel
theorem d_R_special_42 : decode b_R_special 42 = .ok (.istore 4, 2) := by decide +kernel
theorem d_R_special_44 : decode b_R_special 44 = .ok (.iload 4, 2) := by decide +kernel
theorem d_R_special_46 : decode b_R_special 46 = .ok (.istore 5, 2) := by decide +kernel
theorem d_R_special_48 : decode b_R_special 48 = .ok (.iload 5, 2) := by decide +kernel
theorem d_R_special_50 : decode b_R_special 50 = .ok (.ifCond .le 57, 3) := by decide +kernel
theorem d_R_special_53 : decode b_R_special 53 = .ok (.aload_n 0, 1) := by decide +kernel
theorem d_R_special_54 : decode b_R_special 54 = .ok (.iload 5, 2) := by decide +kernel
theorem d_R_special_56 : decode b_R_special 56 = .ok (.iload_n 3, 1) := by decide +kernel
theorem d_R_special_57 : decode b_R_special 57 = .ok (.invokevirtual 70, 3) := by decide +kernel
theorem d_R_special_60 : decode b_R_special 60 = .ok (.ifCond .eq 21, 3) := by decide +kernel
theorem d_R_special_63 : decode b_R_special 63 = .ok (.aload_n 0, 1) := by decide +kernel
theorem d_R_special_64 : decode b_R_special 64 = .ok (.iload 5, 2) := by decide +kernel
theorem d_R_special_66 : decode b_R_special 66 = .ok (.iload_n 3, 1) := by decide +kernel
theorem d_R_special_67 : decode b_R_special 67 = .ok (.invokevirtual 73, 3) := by decide +kernel
theorem d_R_special_70 : decode b_R_special 70 = .ok (.ifCond .ne 11, 3) := by decide +kernel
theorem d_R_special_73 : decode b_R_special 73 = .ok (.aload_n 0, 1) := by decide +kernel
theorem d_R_special_74 : decode b_R_special 74 = .ok (.iload 5, 2) := by decide +kernel
theorem d_R_special_76 : decode b_R_special 76 = .ok (.iload_n 3, 1) := by decide +kernel
theorem d_R_special_77 : decode b_R_special 77 = .ok (.invokevirtual 128, 3) := by decide +kernel
theorem d_R_special_80 : decode b_R_special 80 = .ok (.ireturn, 1) := by decide +kernel
theorem d_R_special_81 : decode b_R_special 81 = .ok (.aload_n 0, 1) := by decide +kernel
theorem d_R_special_82 : decode b_R_special 82 = .ok (.getfield 7, 3) := by decide +kernel
theorem d_R_special_85 : decode b_R_special 85 = .ok (.iload 4, 2) := by decide +kernel
theorem d_R_special_87 : decode b_R_special 87 = .ok (.baload, 1) := by decide +kernel
theorem d_R_special_88 : decode b_R_special 88 = .ok (.ifCond .eq 7, 3) := by decide +kernel
theorem d_R_special_91 : decode b_R_special 91 = .ok (.iconst 0, 1) := by decide +kernel
theorem d_R_special_92 : decode b_R_special 92 = .ok (.goto 10, 3) := by decide +kernel
theorem d_R_special_95 : decode b_R_special 95 = .ok (.aload_n 0, 1) := by decide +kernel
theorem d_R_special_96 : decode b_R_special 96 = .ok (.getfield 23, 3) := by decide +kernel
theorem d_R_special_99 : decode b_R_special 99 = .ok (.iload 5, 2) := by decide +kernel
theorem d_R_special_101 : decode b_R_special 101 = .ok (.iaload, 1) := by decide +kernel
theorem d_R_special_102 : decode b_R_special 102 = .ok (.istore 5, 2) := by decide +kernel
theorem d_R_special_104 : decode b_R_special 104 = .ok (.goto (-56), 3) := by decide +kernel
theorem d_R_special_107 : decode b_R_special 107 = .ok (.aload_n 0, 1) := by decide +kernel
theorem d_R_special_108 : decode b_R_special 108 = .ok (.aload_n 0, 1) := by decide +kernel
theorem d_R_special_109 : decode b_R_special 109 = .ok (.iload 4, 2) := by decide +kernel
theorem d_R_special_111 : decode b_R_special 111 = .ok (.iload_n 3, 1) := by decide +kernel
theorem d_R_special_112 : decode b_R_special 112 = .ok (.invokevirtual 86, 3) := by decide +kernel
theorem d_R_special_115 : decode b_R_special 115 = .ok (.iload_n 3, 1) := by decide +kernel
theorem d_R_special_116 : decode b_R_special 116 = .ok (.invokevirtual 125, 3) := by decide +kernel
theorem d_R_special_119 : decode b_R_special 119 = .ok (.ireturn, 1) := by decide +kernel
theorem d_R_invoke_0 : decode b_R_invoke 0 = .ok (.iload_n 1, 1) := by decide +kernel
theorem d_R_invoke_1 : decode b_R_invoke 1 = .ok (.iconst 0, 1) := by decide +kernel
theorem d_R_invoke_2 : decode b_R_invoke 2 = .ok (.iconst 3, 1) := by decide +kernel
theorem d_R_invoke_3 : decode b_R_invoke 3 = .ok (.invokestatic 54, 3) := by decide +kernel
theorem d_R_invoke_6 : decode b_R_invoke 6 = .ok (.ifCond .eq 29, 3) := by decide +kernel
theorem d_R_invoke_9 : decode b_R_invoke 9 = .ok (.aload_n 0, 1) := by decide +kernel
theorem d_R_invoke_10 : decode b_R_invoke 10 = .ok (.iload_n 2, 1) := by decide +kernel
theorem d_R_invoke_11 : decode b_R_invoke 11 = .ok (.invokevirtual 58, 3) := by decide +kernel
theorem d_R_invoke_14 : decode b_R_invoke 14 = .ok (.ifCond .eq 21, 3) := by decide +kernel
theorem d_R_invoke_17 : decode b_R_invoke 17 = .ok (.aload_n 0, 1) := by decide +kernel
theorem d_R_invoke_18 : decode b_R_invoke 18 = .ok (.iload_n 3, 1) := by decide +kernel
theorem d_R_invoke_19 : decode b_R_invoke 19 = .ok (.invokevirtual 58, 3) := by decide +kernel
theorem d_R_invoke_22 : decode b_R_invoke 22 = .ok (.ifCond .eq 13, 3) := by decide +kernel
theorem d_R_invoke_25 : decode b_R_invoke 25 = .ok (.iload 4, 2) := by decide +kernel
theorem d_R_invoke_27 : decode b_R_invoke 27 = .ok (.iconst 0, 1) := by decide +kernel
theorem d_R_invoke_28 : decode b_R_invoke 28 = .ok (.iconst 3, 1) := by decide +kernel
theorem d_R_invoke_29 : decode b_R_invoke 29 = .ok (.invokestatic 54, 3) := by decide +kernel
theorem d_R_invoke_32 : decode b_R_invoke 32 = .ok (.ifCond .ne 5, 3) := by decide +kernel
theorem d_R_invoke_35 : decode b_R_invoke 35 = .ok (.iconst (-1), 1) := by decide +kernel
theorem d_R_invoke_36 : decode b_R_invoke 36 = .ok (.ireturn, 1) := by decide +kernel
theorem d_R_invoke_37 : decode b_R_invoke 37 = .ok (.aload_n 0, 1) := by decide +kernel
theorem d_R_invoke_38 : decode b_R_invoke 38 = .ok (.invokevirtual 111, 3) := by decide +kernel
theorem d_R_invoke_41 : decode b_R_invoke 41 = .ok (.iload_n 1, 1) := by decide +kernel
theorem d_R_invoke_42 : decode b_R_invoke 42 = .ok (.iconst 2, 1) := by decide +kernel
theorem d_R_invoke_43 : decode b_R_invoke 43 = .ok (.if_icmp .ge 22, 3) := by decide +kernel
theorem d_R_invoke_46 : decode b_R_invoke 46 = .ok (.aload_n 0, 1) := by decide +kernel
theorem d_R_invoke_47 : decode b_R_invoke 47 = .ok (.iload 5, 2) := by decide +kernel
theorem d_R_invoke_49 : decode b_R_invoke 49 = .ok (.invokevirtual 58, 3) := by decide +kernel
theorem d_R_invoke_52 : decode b_R_invoke 52 = .ok (.ifCond .eq 23, 3) := by decide +kernel
theorem d_R_invoke_55 : decode b_R_invoke 55 = .ok (.aload_n 0, 1) := by decide +kernel
theorem d_R_invoke_56 : decode b_R_invoke 56 = .ok (.getfield 7, 3) := by decide +kernel
theorem d_R_invoke_59 : decode b_R_invoke 59 = .ok (.iload 5, 2) := by decide +kernel
theorem d_R_invoke_61 : decode b_R_invoke 61 = .ok (.baload, 1) := by decide +kernel
theorem d_R_invoke_62 : decode b_R_invoke 62 = .ok (.ifCond .ne 13, 3) := by decide +kernel
theorem d_R_invoke_65 : decode b_R_invoke 65 = .ok (.iload_n 1, 1) := by decide +kernel
theorem d_R_invoke_66 : decode b_R_invoke 66 = .ok (.iconst 1, 1) := by decide +kernel
theorem d_R_invoke_67 : decode b_R_invoke 67 = .ok (.if_icmp .le 10, 3) := by decide +kernel
theorem d_R_invoke_70 : decode b_R_invoke 70 = .ok (.iload 5, 2) := by decide +kernel
theorem d_R_invoke_72 : decode b_R_invoke 72 = .ok (.ifCond .eq 5, 3) := by decide +kernel
theorem d_R_invoke_75 : decode b_R_invoke 75 = .ok (.iconst (-1), 1) := by decide +kernel
theorem d_R_invoke_76 : decode b_R_invoke 76 = .ok (.ireturn, 1) := by decide +kernel
theorem d_R_invoke_77 : decode b_R_invoke 77 = .ok (.iload_n 1, 1) := by decide +kernel
theorem d_R_invoke_78 : decode b_R_invoke 78 = .ok (.ifCond .ne 13, 3) := by decide +kernel
theorem d_R_invoke_81 : decode b_R_invoke 81 = .ok (.aload_n 0, 1) := by decide +kernel
theorem d_R_invoke_82 : decode b_R_invoke 82 = .ok (.iload 5, 2) := by decide +kernel
theorem d_R_invoke_84 : decode b_R_invoke 84 = .ok (.iload_n 2, 1) := by decide +kernel
theorem d_R_invoke_85 : decode b_R_invoke 85 = .ok (.invokevirtual 66, 3) := by decide +kernel
theorem d_R_invoke_88 : decode b_R_invoke 88 = .ok (.ifCond .eq 17, 3) := by decide +kernel
theorem d_R_invoke_91 : decode b_R_invoke 91 = .ok (.iload_n 1, 1) := by decide +kernel
theorem d_R_invoke_92 : decode b_R_invoke 92 = .ok (.iconst 2, 1) := by decide +kernel
theorem d_R_invoke_93 : decode b_R_invoke 93 = .ok (.if_icmp .ne 14, 3) := by decide +kernel
theorem d_R_invoke_96 : decode b_R_invoke 96 = .ok (.aload_n 0, 1) := by decide +kernel
theorem d_R_invoke_97 : decode b_R_invoke 97 = .ok (.iload_n 3, 1) := by decide +kernel
theorem d_R_invoke_98 : decode b_R_invoke 98 = .ok (.iload_n 2, 1) := by decide +kernel
theorem d_R_invoke_99 : decode b_R_invoke 99 = .ok (.invokevirtual 66, 3) := by decide +kernel
theorem d_R_invoke_102 : decode b_R_invoke 102 = .ok (.ifCond .ne 5, 3) := by decide +kernel
theorem d_R_invoke_105 : decode b_R_invoke 105 = .ok (.iconst (-1), 1) := by decide +kernel
theorem d_R_invoke_106 : decode b_R_invoke 106 = .ok (.ireturn, 1) := by decide +kernel
theorem d_R_invoke_107 : decode b_R_invoke 107 = .ok (.aload_n 0, 1) := by decide +kernel
theorem d_R_invoke_108 : decode b_R_invoke 108 = .ok (.iload_n 1, 1) := by decide +kernel
theorem d_R_invoke_109 : decode b_R_invoke 109 = .ok (.ifCond .ne 7, 3) := by decide +kernel
theorem d_R_invoke_112 : decode b_R_invoke 112 = .ok (.iconst 1, 1) := by decide +kernel
theorem d_R_invoke_113 : decode b_R_invoke 113 = .ok (.goto 22, 3) := by decide +kernel
theorem d_R_invoke_116 : decode b_R_invoke 116 = .ok (.iload_n 1, 1) := by decide +kernel
theorem d_R_invoke_117 : decode b_R_invoke 117 = .ok (.iconst 1, 1) := by decide +kernel
theorem d_R_invoke_118 : decode b_R_invoke 118 = .ok (.if_icmp .eq 12, 3) := by decide +kernel
theorem d_R_invoke_121 : decode b_R_invoke 121 = .ok (.aload_n 0, 1) := by decide +kernel
theorem d_R_invoke_122 : decode b_R_invoke 122 = .ok (.getfield 7, 3) := by decide +kernel
theorem d_R_invoke_125 : decode b_R_invoke 125 = .ok (.iload_n 2, 1) := by decide +kernel
theorem d_R_invoke_126 : decode b_R_invoke 126 = .ok (.baload, 1) := by decide +kernel
theorem d_R_invoke_127 : decode b_R_invoke 127 = .ok (.ifCond .eq 7, 3) := by decide +kernel
theorem d_R_invoke_130 : decode b_R_invoke 130 = .ok (.iconst 2, 1) := by decide +kernel
theorem d_R_invoke_131 : decode b_R_invoke 131 = .ok (.goto 4, 3) := by decide +kernel
theorem d_R_invoke_134 : decode b_R_invoke 134 = .ok (.iconst 1, 1) := by decide +kernel
theorem d_R_invoke_135 : decode b_R_invoke 135 = .ok (.iload_n 3, 1) := by decide +kernel
theorem d_R_invoke_136 : decode b_R_invoke 136 = .ok (.iload_n 2, 1) := by decide +kernel
theorem d_R_invoke_137 : decode b_R_invoke 137 = .ok (.iload 4, 2) := by decide +kernel
theorem d_R_invoke_139 : decode b_R_invoke 139 = .ok (.invokevirtual 114, 3) := by decide +kernel
theorem d_R_invoke_142 : decode b_R_invoke 142 = .ok (.istore 6, 2) := by decide +kernel
theorem d_R_invoke_144 : decode b_R_invoke 144 = .ok (.iload 6, 2) := by decide +kernel
theorem d_R_invoke_146 : decode b_R_invoke 146 = .ok (.ifCond .ge 6, 3) := by decide +kernel
theorem d_R_invoke_149 : decode b_R_invoke 149 = .ok (.iload 6, 2) := by decide +kernel
theorem d_R_invoke_151 : decode b_R_invoke 151 = .ok (.ireturn, 1) := by decide +kernel
theorem d_R_invoke_152 : decode b_R_invoke 152 = .ok (.aload_n 0, 1) := by decide +kernel
theorem d_R_invoke_153 : decode b_R_invoke 153 = .ok (.iload 6, 2) := by decide +kernel
theorem d_R_invoke_155 : decode b_R_invoke 155 = .ok (.iload 4, 2) := by decide +kernel
theorem d_R_invoke_157 : decode b_R_invoke 157 = .ok (.invokevirtual 73, 3) := by decide +kernel
theorem d_R_invoke_160 : decode b_R_invoke 160 = .ok (.iload_n 1, 1) := by decide +kernel
theorem d_R_invoke_161 : decode b_R_invoke 161 = .ok (.iconst 3, 1) := by decide +kernel
theorem d_R_invoke_162 : decode b_R_invoke 162 = .ok (.if_icmp .ne 7, 3) := by decide +kernel
theorem d_R_invoke_165 : decode b_R_invoke 165 = .ok (.iconst 1, 1) := by decide +kernel
theorem d_R_invoke_166 : decode b_R_invoke 166 = .ok (.goto 4, 3) := by decide +kernel
theorem d_R_invoke_169 : decode b_R_invoke 169 = .ok (.iconst 0, 1) := by decide +kernel
theorem d_R_invoke_170 : decode b_R_invoke 170 = .ok (.if_icmp .eq 6, 3) := by decide +kernel
theorem d_R_invoke_173 : decode b_R_invoke 173 = .ok (.bipush (-6), 2) := by decide +kernel
theorem d_R_invoke_175 : decode b_R_invoke 175 = .ok (.ireturn, 1) := by decide +kernel
theorem d_R_invoke_176 : decode b_R_invoke 176 = .ok (.iload_n 1, 1) := by decide +kernel
theorem d_R_invoke_177 : decode b_R_invoke 177 = .ok (.iconst 3, 1) := by decide +kernel
theorem d_R_invoke_178 : decode b_R_invoke 178 = .ok (.if_icmp .ne 6, 3) := by decide +kernel
theorem d_R_invoke_181 : decode b_R_invoke 181 = .ok (.iload 6, 2) := by decide +kernel
theorem d_R_invoke_183 : decode b_R_invoke 183 = .ok (.ireturn, 1) := by decide +kernel
theorem d_R_invoke_184 : decode b_R_invoke 184 = .ok (.iload_n 1, 1) := by decide +kernel
theorem d_R_invoke_185 : decode b_R_invoke 185 = .ok (.iconst 2, 1) := by decide +kernel
theorem d_R_invoke_186 : decode b_R_invoke 186 = .ok (.if_icmp .ne 12, 3) := by decide +kernel
theorem d_R_invoke_189 : decode b_R_invoke 189 = .ok (.aload_n 0, 1) := by decide +kernel
theorem d_R_invoke_190 : decode b_R_invoke 190 = .ok (.iload_n 2, 1) := by decide +kernel
theorem d_R_invoke_191 : decode b_R_invoke 191 = .ok (.iload_n 3, 1) := by decide +kernel
theorem d_R_invoke_192 : decode b_R_invoke 192 = .ok (.iload 4, 2) := by decide +kernel
theorem d_R_invoke_194 : decode b_R_invoke 194 = .ok (.invokevirtual 131, 3) := by decide +kernel
theorem d_R_invoke_197 : decode b_R_invoke 197 = .ok (.ireturn, 1) := by decide +kernel
theorem d_R_invoke_198 : decode b_R_invoke 198 = .ok (.iload_n 1, 1) := by decide +kernel
theorem d_R_invoke_199 : decode b_R_invoke 199 = .ok (.iconst 1, 1) := by decide +kernel
theorem d_R_invoke_200 : decode b_R_invoke 200 = .ok (.if_icmp .ne 17, 3) := by decide +kernel
theorem d_R_invoke_203 : decode b_R_invoke 203 = .ok (.aload_n 0, 1) := by decide +kernel
theorem d_R_invoke_204 : decode b_R_invoke 204 = .ok (.iload 5, 2) := by decide +kernel
theorem d_R_invoke_206 : decode b_R_invoke 206 = .ok (.iload 6, 2) := by decide +kernel
theorem d_R_invoke_208 : decode b_R_invoke 208 = .ok (.invokevirtual 66, 3) := by decide +kernel
theorem d_R_invoke_211 : decode b_R_invoke 211 = .ok (.ifCond .ne 6, 3) := by decide +kernel
theorem d_R_invoke_214 : decode b_R_invoke 214 = .ok (.bipush (-6), 2) := by decide +kernel
theorem d_R_invoke_216 : decode b_R_invoke 216 = .ok (.ireturn, 1) := by decide +kernel
theorem d_R_invoke_217 : decode b_R_invoke 217 = .ok (.aload_n 0, 1) := by decide +kernel
theorem d_R_invoke_218 : decode b_R_invoke 218 = .ok (.iload 5, 2) := by decide +kernel
theorem d_R_invoke_220 : decode b_R_invoke 220 = .ok (.iload 6, 2) := by decide +kernel
theorem d_R_invoke_222 : decode b_R_invoke 222 = .ok (.iload 4, 2) := by decide +kernel
theorem d_R_invoke_224 : decode b_R_invoke 224 = .ok (.invokevirtual 134, 3) := by decide +kernel
theorem d_R_invoke_227 : decode b_R_invoke 227 = .ok (.istore 7, 2) := by decide +kernel
theorem d_R_invoke_229 : decode b_R_invoke 229 = .ok (.iload 7, 2) := by decide +kernel
theorem d_R_invoke_231 : decode b_R_invoke 231 = .ok (.ifCond .ge 6, 3) := by decide +kernel
theorem d_R_invoke_234 : decode b_R_invoke 234 = .ok (.iload 7, 2) := by decide +kernel
theorem d_R_invoke_236 : decode b_R_invoke 236 = .ok (.ireturn, 1) := by decide +kernel
theorem d_R_invoke_237 : decode b_R_invoke 237 = .ok (.aload_n 0, 1) := by decide +kernel
theorem d_R_invoke_238 : decode b_R_invoke 238 = .ok (.getfield 38, 3) := by decide +kernel
theorem d_R_invoke_241 : decode b_R_invoke 241 = .ok (.iconst 4, 1) := by decide +kernel
theorem d_R_invoke_242 : decode b_R_invoke 242 = .ok (.iload 7, 2) := by decide +kernel
theorem d_R_invoke_244 : decode b_R_invoke 244 = .ok (.imul, 1) := by decide +kernel
theorem d_R_invoke_245 : decode b_R_invoke 245 = .ok (.iload 4, 2) := by decide +kernel
theorem d_R_invoke_247 : decode b_R_invoke 247 = .ok (.iadd, 1) := by decide +kernel
theorem d_R_invoke_248 : decode b_R_invoke 248 = .ok (.iaload, 1) := by decide +kernel
theorem d_R_invoke_249 : decode b_R_invoke 249 = .ok (.iconst 3, 1) := by decide +kernel
theorem d_R_invoke_250 : decode b_R_invoke 250 = .ok (.iand, 1) := by decide +kernel
theorem d_R_invoke_251 : decode b_R_invoke 251 = .ok (.istore 8, 2) := by decide +kernel
theorem d_R_invoke_253 : decode b_R_invoke 253 = .ok (.iload_n 1, 1) := by decide +kernel
theorem d_R_invoke_254 : decode b_R_invoke 254 = .ok (.iconst 1, 1) := by decide +kernel
theorem d_R_invoke_255 : decode b_R_invoke 255 = .ok (.if_icmp .ne 17, 3) := by decide +kernel
theorem d_R_invoke_258 : decode b_R_invoke 258 = .ok (.iload 8, 2) := by decide +kernel
theorem d_R_invoke_260 : decode b_R_invoke 260 = .ok (.ifCond .eq 12, 3) := by decide +kernel
theorem d_R_invoke_263 : decode b_R_invoke 263 = .ok (.iload 8, 2) := by decide +kernel
theorem d_R_invoke_265 : decode b_R_invoke 265 = .ok (.iconst 3, 1) := by decide +kernel
theorem d_R_invoke_266 : decode b_R_invoke 266 = .ok (.if_icmp .eq 6, 3) := by decide +kernel
theorem d_R_invoke_269 : decode b_R_invoke 269 = .ok (.bipush (-5), 2) := by decide +kernel
theorem d_R_invoke_271 : decode b_R_invoke 271 = .ok (.ireturn, 1) := by decide +kernel
theorem d_R_invoke_272 : decode b_R_invoke 272 = .ok (.aload_n 0, 1) := by decide +kernel
theorem d_R_invoke_273 : decode b_R_invoke 273 = .ok (.iload 7, 2) := by decide +kernel
theorem d_R_invoke_275 : decode b_R_invoke 275 = .ok (.iload 4, 2) := by decide +kernel
theorem d_R_invoke_277 : decode b_R_invoke 277 = .ok (.invokevirtual 128, 3) := by decide +kernel
theorem d_R_invoke_280 : decode b_R_invoke 280 = .ok (.ireturn, 1) := by decide +kernel
theorem d_R_isA_0 : decode b_R_isA 0 = .ok (.aload_n 0, 1) := by decide +kernel
theorem d_R_isA_1 : decode b_R_isA 1 = .ok (.invokevirtual 111, 3) := by decide +kernel
theorem d_R_isA_4 : decode b_R_isA 4 = .ok (.aload_n 0, 1) := by decide +kernel
theorem d_R_isA_5 : decode b_R_isA 5 = .ok (.iload_n 1, 1) := by decide +kernel
theorem d_R_isA_6 : decode b_R_isA 6 = .ok (.invokevirtual 58, 3) := by decide +kernel
theorem d_R_isA_9 : decode b_R_isA 9 = .ok (.ifCond .eq 24, 3) := by decide +kernel
theorem d_R_isA_12 : decode b_R_isA 12 = .ok (.aload_n 0, 1) := by decide +kernel
theorem d_R_isA_13 : decode b_R_isA 13 = .ok (.iload_n 2, 1) := by decide +kernel
theorem d_R_isA_14 : decode b_R_isA 14 = .ok (.invokevirtual 58, 3) := by decide +kernel
theorem d_R_isA_17 : decode b_R_isA 17 = .ok (.ifCond .eq 16, 3) := by decide +kernel
theorem d_R_isA_20 : decode b_R_isA 20 = .ok (.aload_n 0, 1) := by decide +kernel
theorem d_R_isA_21 : decode b_R_isA 21 = .ok (.iload_n 1, 1) := by decide +kernel
theorem d_R_isA_22 : decode b_R_isA 22 = .ok (.iload_n 2, 1) := by decide +kernel
theorem d_R_isA_23 : decode b_R_isA 23 = .ok (.invokevirtual 66, 3) := by decide +kernel
theorem d_R_isA_26 : decode b_R_isA 26 = .ok (.ifCond .eq 7, 3) := by decide +kernel
theorem d_R_isA_29 : decode b_R_isA 29 = .ok (.iconst 1, 1) := by decide +kernel
theorem d_R_isA_30 : decode b_R_isA 30 = .ok (.goto 4, 3) := by decide +kernel
theorem d_R_isA_33 : decode b_R_isA 33 = .ok (.iconst 0, 1) := by decide +kernel
theorem d_R_isA_34 : decode b_R_isA 34 = .ok (.ireturn, 1) := by decide +kernel
theorem d_R_mates_0 : decode b_R_mates 0 = .ok (.aload_n 0, 1) := by decide +kernel
theorem d_R_mates_1 : decode b_R_mates 1 = .ok (.iload_n 1, 1) := by decide +kernel
theorem d_R_mates_2 : decode b_R_mates 2 = .ok (.invokevirtual 58, 3) := by decide +kernel
theorem d_R_mates_5 : decode b_R_mates 5 = .ok (.ifCond .eq 30, 3) := by decide +kernel
theorem d_R_mates_8 : decode b_R_mates 8 = .ok (.aload_n 0, 1) := by decide +kernel
theorem d_R_mates_9 : decode b_R_mates 9 = .ok (.iload_n 2, 1) := by decide +kernel
theorem d_R_mates_10 : decode b_R_mates 10 = .ok (.invokevirtual 58, 3) := by decide +kernel
theorem d_R_mates_13 : decode b_R_mates 13 = .ok (.ifCond .eq 22, 3) := by decide +kernel
theorem d_R_mates_16 : decode b_R_mates 16 = .ok (.aload_n 0, 1) := by decide +kernel
theorem d_R_mates_17 : decode b_R_mates 17 = .ok (.getfield 26, 3) := by decide +kernel
theorem d_R_mates_20 : decode b_R_mates 20 = .ok (.iload_n 1, 1) := by decide +kernel
theorem d_R_mates_21 : decode b_R_mates 21 = .ok (.iaload, 1) := by decide +kernel
theorem d_R_mates_22 : decode b_R_mates 22 = .ok (.aload_n 0, 1) := by decide +kernel
theorem d_R_mates_23 : decode b_R_mates 23 = .ok (.getfield 26, 3) := by decide +kernel
theorem d_R_mates_26 : decode b_R_mates 26 = .ok (.iload_n 2, 1) := by decide +kernel
theorem d_R_mates_27 : decode b_R_mates 27 = .ok (.iaload, 1) := by decide +kernel
theorem d_R_mates_28 : decode b_R_mates 28 = .ok (.if_icmp .ne 7, 3) := by decide +kernel
theorem d_R_mates_31 : decode b_R_mates 31 = .ok (.iconst 1, 1) := by decide +kernel
theorem d_R_mates_32 : decode b_R_mates 32 = .ok (.goto 4, 3) := by decide +kernel
theorem d_R_mates_35 : decode b_R_mates 35 = .ok (.iconst 0, 1) := by decide +kernel
theorem d_R_mates_36 : decode b_R_mates 36 = .ok (.ireturn, 1) := by decide +kernel
theorem d_R_overrides_0 : decode b_R_overrides 0 = .ok (.aload_n 0, 1) := by decide +kernel
theorem d_R_overrides_1 : decode b_R_overrides 1 = .ok (.iload_n 1, 1) := by decide +kernel
theorem d_R_overrides_2 : decode b_R_overrides 2 = .ok (.invokevirtual 58, 3) := by decide +kernel
theorem d_R_overrides_5 : decode b_R_overrides 5 = .ok (.ifCond .eq 29, 3) := by decide +kernel
theorem d_R_overrides_8 : decode b_R_overrides 8 = .ok (.aload_n 0, 1) := by decide +kernel
theorem d_R_overrides_9 : decode b_R_overrides 9 = .ok (.iload_n 2, 1) := by decide +kernel
theorem d_R_overrides_10 : decode b_R_overrides 10 = .ok (.invokevirtual 58, 3) := by decide +kernel
theorem d_R_overrides_13 : decode b_R_overrides 13 = .ok (.ifCond .eq 21, 3) := by decide +kernel
theorem d_R_overrides_16 : decode b_R_overrides 16 = .ok (.iload_n 3, 1) := by decide +kernel
theorem d_R_overrides_17 : decode b_R_overrides 17 = .ok (.iconst 0, 1) := by decide +kernel
theorem d_R_overrides_18 : decode b_R_overrides 18 = .ok (.iconst 3, 1) := by decide +kernel
theorem d_R_overrides_19 : decode b_R_overrides 19 = .ok (.invokestatic 54, 3) := by decide +kernel
theorem d_R_overrides_22 : decode b_R_overrides 22 = .ok (.ifCond .eq 12, 3) := by decide +kernel
theorem d_R_overrides_25 : decode b_R_overrides 25 = .ok (.aload_n 0, 1) := by decide +kernel
theorem d_R_overrides_26 : decode b_R_overrides 26 = .ok (.getfield 7, 3) := by decide +kernel
theorem d_R_overrides_29 : decode b_R_overrides 29 = .ok (.iload_n 1, 1) := by decide +kernel
theorem d_R_overrides_30 : decode b_R_overrides 30 = .ok (.baload, 1) := by decide +kernel
theorem d_R_overrides_31 : decode b_R_overrides 31 = .ok (.ifCond .eq 5, 3) := by decide +kernel
theorem d_R_overrides_34 : decode b_R_overrides 34 = .ok (.iconst 0, 1) := by decide +kernel
theorem d_R_overrides_35 : decode b_R_overrides 35 = .ok (.ireturn, 1) := by decide +kernel
theorem d_R_overrides_36 : decode b_R_overrides 36 = .ok (.aload_n 0, 1) := by decide +kernel
theorem d_R_overrides_37 : decode b_R_overrides 37 = .ok (.iload_n 3, 1) := by decide +kernel
theorem d_R_overrides_38 : decode b_R_overrides 38 = .ok (.invokevirtual 121, 3) := by decide +kernel
theorem d_R_overrides_41 : decode b_R_overrides 41 = .ok (.aload_n 0, 1) := by decide +kernel
theorem d_R_overrides_42 : decode b_R_overrides 42 = .ok (.getfield 44, 3) := by decide +kernel
theorem d_R_overrides_45 : decode b_R_overrides 45 = .ok (.bipush 13, 2) := by decide +kernel
theorem d_R_overrides_47 : decode b_R_overrides 47 = .ok (.iload_n 1, 1) := by decide +kernel
theorem d_R_overrides_48 : decode b_R_overrides 48 = .ok (.imul, 1) := by decide +kernel
theorem d_R_overrides_49 : decode b_R_overrides 49 = .ok (.iload_n 2, 1) := by decide +kernel
theorem d_R_overrides_50 : decode b_R_overrides 50 = .ok (.iadd, 1) := by decide +kernel
theorem d_R_overrides_51 : decode b_R_overrides 51 = .ok (.baload, 1) := by decide +kernel
theorem d_R_overrides_52 : decode b_R_overrides 52 = .ok (.ireturn, 1) := by decide +kernel
theorem d_R_maximal_0 : decode b_R_maximal 0 = .ok (.aload_n 0, 1) := by decide +kernel
theorem d_R_maximal_1 : decode b_R_maximal 1 = .ok (.iload_n 1, 1) := by decide +kernel
theorem d_R_maximal_2 : decode b_R_maximal 2 = .ok (.invokevirtual 58, 3) := by decide +kernel
theorem d_R_maximal_5 : decode b_R_maximal 5 = .ok (.ifCond .eq 12, 3) := by decide +kernel
theorem d_R_maximal_8 : decode b_R_maximal 8 = .ok (.iload_n 2, 1) := by decide +kernel
theorem d_R_maximal_9 : decode b_R_maximal 9 = .ok (.iconst 0, 1) := by decide +kernel
theorem d_R_maximal_10 : decode b_R_maximal 10 = .ok (.iconst 3, 1) := by decide +kernel
theorem d_R_maximal_11 : decode b_R_maximal 11 = .ok (.invokestatic 54, 3) := by decide +kernel
theorem d_R_maximal_14 : decode b_R_maximal 14 = .ok (.ifCond .ne 5, 3) := by decide +kernel
theorem d_R_maximal_17 : decode b_R_maximal 17 = .ok (.iconst (-1), 1) := by decide +kernel
theorem d_R_maximal_18 : decode b_R_maximal 18 = .ok (.ireturn, 1) := by decide +kernel
theorem d_R_maximal_19 : decode b_R_maximal 19 = .ok (.aload_n 0, 1) := by decide +kernel
theorem d_R_maximal_20 : decode b_R_maximal 20 = .ok (.invokevirtual 111, 3) := by decide +kernel
theorem d_R_maximal_23 : decode b_R_maximal 23 = .ok (.aload_n 0, 1) := by decide +kernel
theorem d_R_maximal_24 : decode b_R_maximal 24 = .ok (.iload_n 1, 1) := by decide +kernel
theorem d_R_maximal_25 : decode b_R_maximal 25 = .ok (.iload_n 2, 1) := by decide +kernel
theorem d_R_maximal_26 : decode b_R_maximal 26 = .ok (.invokevirtual 86, 3) := by decide +kernel
theorem d_R_maximal_29 : decode b_R_maximal 29 = .ok (.ireturn, 1) := by decide +kernel
theorem d_R_type_0 : decode b_R_type 0 = .ok (.aload_n 0, 1) := by decide +kernel
theorem d_R_type_1 : decode b_R_type 1 = .ok (.iload_n 1, 1) := by decide +kernel
theorem d_R_type_2 : decode b_R_type 2 = .ok (.invokevirtual 58, 3) := by decide +kernel
theorem d_R_type_5 : decode b_R_type 5 = .ok (.ifCond .ne 5, 3) := by decide +kernel
theorem d_R_type_8 : decode b_R_type 8 = .ok (.iconst (-1), 1) := by decide +kernel
theorem d_R_type_9 : decode b_R_type 9 = .ok (.ireturn, 1) := by decide +kernel
theorem d_R_type_10 : decode b_R_type 10 = .ok (.aload_n 0, 1) := by decide +kernel
theorem d_R_type_11 : decode b_R_type 11 = .ok (.invokevirtual 111, 3) := by decide +kernel
theorem d_R_type_14 : decode b_R_type 14 = .ok (.iconst 0, 1) := by decide +kernel
theorem d_R_type_15 : decode b_R_type 15 = .ok (.istore_n 3, 1) := by decide +kernel
theorem d_R_type_16 : decode b_R_type 16 = .ok (.iconst 1, 1) := by decide +kernel
theorem d_R_type_17 : decode b_R_type 17 = .ok (.istore 4, 2) := by decide +kernel
theorem d_R_type_19 : decode b_R_type 19 = .ok (.iload 4, 2) := by decide +kernel
theorem d_R_type_21 : decode b_R_type 21 = .ok (.aload_n 0, 1) := by decide +kernel
theorem d_R_type_22 : decode b_R_type 22 = .ok (.getfield 50, 3) := by decide +kernel
theorem d_R_type_25 : decode b_R_type 25 = .ok (.if_icmp .gt 26, 3) := by decide +kernel
theorem d_R_type_28 : decode b_R_type 28 = .ok (.aload_n 0, 1) := by decide +kernel
theorem d_R_type_29 : decode b_R_type 29 = .ok (.getfield 41, 3) := by decide +kernel
theorem d_R_type_32 : decode b_R_type 32 = .ok (.iload_n 1, 1) := by decide +kernel
theorem d_R_type_33 : decode b_R_type 33 = .ok (.iaload, 1) := by decide +kernel
theorem d_R_type_34 : decode b_R_type 34 = .ok (.iload 4, 2) := by decide +kernel
