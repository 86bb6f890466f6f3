theorem d_O_isA_15 : decode b_O_isA 15 = .ok (.iload_n 2, 1) := by decide +kernel
theorem d_O_isA_16 : decode b_O_isA 16 = .ok (.invokevirtual 49, 3) := by decide +kernel
theorem d_O_isA_19 : decode b_O_isA 19 = .ok (.ifCond .eq 19, 3) := by decide +kernel
theorem d_O_isA_22 : decode b_O_isA 22 = .ok (.aload_n 0, 1) := by decide +kernel
theorem d_O_isA_23 : decode b_O_isA 23 = .ok (.getfield 10, 3) := by decide +kernel
theorem d_O_isA_26 : decode b_O_isA 26 = .ok (.iload_n 1, 1) := by decide +kernel
theorem d_O_isA_27 : decode b_O_isA 27 = .ok (.iload_n 2, 1) := by decide +kernel
theorem d_O_isA_28 : decode b_O_isA 28 = .ok (.invokevirtual 130, 3) := by decide +kernel
theorem d_O_isA_31 : decode b_O_isA 31 = .ok (.ifCond .eq 7, 3) := by decide +kernel
theorem d_O_isA_34 : decode b_O_isA 34 = .ok (.iconst 1, 1) := by decide +kernel
theorem d_O_isA_35 : decode b_O_isA 35 = .ok (.goto 4, 3) := by decide +kernel
theorem d_O_isA_38 : decode b_O_isA 38 = .ok (.iconst 0, 1) := by decide +kernel
theorem d_O_isA_39 : decode b_O_isA 39 = .ok (.ireturn, 1) := by decide +kernel
theorem d_O_mates_0 : decode b_O_mates 0 = .ok (.aload_n 0, 1) := by decide +kernel
theorem d_O_mates_1 : decode b_O_mates 1 = .ok (.getfield 10, 3) := by decide +kernel
theorem d_O_mates_4 : decode b_O_mates 4 = .ok (.iload_n 1, 1) := by decide +kernel
theorem d_O_mates_5 : decode b_O_mates 5 = .ok (.invokevirtual 49, 3) := by decide +kernel
theorem d_O_mates_8 : decode b_O_mates 8 = .ok (.ifCond .eq 30, 3) := by decide +kernel
theorem d_O_mates_11 : decode b_O_mates 11 = .ok (.aload_n 0, 1) := by decide +kernel
theorem d_O_mates_12 : decode b_O_mates 12 = .ok (.getfield 10, 3) := by decide +kernel
theorem d_O_mates_15 : decode b_O_mates 15 = .ok (.iload_n 2, 1) := by decide +kernel
theorem d_O_mates_16 : decode b_O_mates 16 = .ok (.invokevirtual 49, 3) := by decide +kernel
theorem d_O_mates_19 : decode b_O_mates 19 = .ok (.ifCond .eq 19, 3) := by decide +kernel
theorem d_O_mates_22 : decode b_O_mates 22 = .ok (.aload_n 0, 1) := by decide +kernel
theorem d_O_mates_23 : decode b_O_mates 23 = .ok (.getfield 10, 3) := by decide +kernel
theorem d_O_mates_26 : decode b_O_mates 26 = .ok (.iload_n 1, 1) := by decide +kernel
theorem d_O_mates_27 : decode b_O_mates 27 = .ok (.iload_n 2, 1) := by decide +kernel
theorem d_O_mates_28 : decode b_O_mates 28 = .ok (.invokevirtual 133, 3) := by decide +kernel
theorem d_O_mates_31 : decode b_O_mates 31 = .ok (.ifCond .eq 7, 3) := by decide +kernel
theorem d_O_mates_34 : decode b_O_mates 34 = .ok (.iconst 1, 1) := by decide +kernel
theorem d_O_mates_35 : decode b_O_mates 35 = .ok (.goto 4, 3) := by decide +kernel
theorem d_O_mates_38 : decode b_O_mates 38 = .ok (.iconst 0, 1) := by decide +kernel
theorem d_O_mates_39 : decode b_O_mates 39 = .ok (.ireturn, 1) := by decide +kernel
theorem d_O_overrides_0 : decode b_O_overrides 0 = .ok (.aload_n 0, 1) := by decide +kernel
theorem d_O_overrides_1 : decode b_O_overrides 1 = .ok (.getfield 10, 3) := by decide +kernel
theorem d_O_overrides_4 : decode b_O_overrides 4 = .ok (.iload_n 1, 1) := by decide +kernel
theorem d_O_overrides_5 : decode b_O_overrides 5 = .ok (.invokevirtual 136, 3) := by decide +kernel
theorem d_O_overrides_8 : decode b_O_overrides 8 = .ok (.ifCond .eq 35, 3) := by decide +kernel
theorem d_O_overrides_11 : decode b_O_overrides 11 = .ok (.aload_n 0, 1) := by decide +kernel
theorem d_O_overrides_12 : decode b_O_overrides 12 = .ok (.getfield 10, 3) := by decide +kernel
theorem d_O_overrides_15 : decode b_O_overrides 15 = .ok (.iload_n 2, 1) := by decide +kernel
theorem d_O_overrides_16 : decode b_O_overrides 16 = .ok (.invokevirtual 49, 3) := by decide +kernel
theorem d_O_overrides_19 : decode b_O_overrides 19 = .ok (.ifCond .eq 24, 3) := by decide +kernel
theorem d_O_overrides_22 : decode b_O_overrides 22 = .ok (.iload_n 3, 1) := by decide +kernel
theorem d_O_overrides_23 : decode b_O_overrides 23 = .ok (.invokestatic 80, 3) := by decide +kernel
theorem d_O_overrides_26 : decode b_O_overrides 26 = .ok (.ifCond .eq 17, 3) := by decide +kernel
theorem d_O_overrides_29 : decode b_O_overrides 29 = .ok (.aload_n 0, 1) := by decide +kernel
theorem d_O_overrides_30 : decode b_O_overrides 30 = .ok (.iload_n 1, 1) := by decide +kernel
theorem d_O_overrides_31 : decode b_O_overrides 31 = .ok (.iload_n 2, 1) := by decide +kernel
theorem d_O_overrides_32 : decode b_O_overrides 32 = .ok (.iload_n 3, 1) := by decide +kernel
theorem d_O_overrides_33 : decode b_O_overrides 33 = .ok (.invokevirtual 139, 3) := by decide +kernel
theorem d_O_overrides_36 : decode b_O_overrides 36 = .ok (.ifCond .eq 7, 3) := by decide +kernel
theorem d_O_overrides_39 : decode b_O_overrides 39 = .ok (.iconst 1, 1) := by decide +kernel
theorem d_O_overrides_40 : decode b_O_overrides 40 = .ok (.goto 4, 3) := by decide +kernel
theorem d_O_overrides_43 : decode b_O_overrides 43 = .ok (.iconst 0, 1) := by decide +kernel
theorem d_O_overrides_44 : decode b_O_overrides 44 = .ok (.ireturn, 1) := by decide +kernel
theorem d_O_maximal_0 : decode b_O_maximal 0 = .ok (.aload_n 0, 1) := by decide +kernel
theorem d_O_maximal_1 : decode b_O_maximal 1 = .ok (.getfield 10, 3) := by decide +kernel
theorem d_O_maximal_4 : decode b_O_maximal 4 = .ok (.iload_n 1, 1) := by decide +kernel
theorem d_O_maximal_5 : decode b_O_maximal 5 = .ok (.invokevirtual 49, 3) := by decide +kernel
theorem d_O_maximal_8 : decode b_O_maximal 8 = .ok (.ifCond .eq 10, 3) := by decide +kernel
theorem d_O_maximal_11 : decode b_O_maximal 11 = .ok (.iload_n 2, 1) := by decide +kernel
theorem d_O_maximal_12 : decode b_O_maximal 12 = .ok (.invokestatic 80, 3) := by decide +kernel
theorem d_O_maximal_15 : decode b_O_maximal 15 = .ok (.ifCond .ne 5, 3) := by decide +kernel
theorem d_O_maximal_18 : decode b_O_maximal 18 = .ok (.iconst (-1), 1) := by decide +kernel
theorem d_O_maximal_19 : decode b_O_maximal 19 = .ok (.ireturn, 1) := by decide +kernel
theorem d_O_maximal_20 : decode b_O_maximal 20 = .ok (.aload_n 0, 1) := by decide +kernel
theorem d_O_maximal_21 : decode b_O_maximal 21 = .ok (.iload_n 1, 1) := by decide +kernel
theorem d_O_maximal_22 : decode b_O_maximal 22 = .ok (.iload_n 2, 1) := by decide +kernel
theorem d_O_maximal_23 : decode b_O_maximal 23 = .ok (.invokevirtual 143, 3) := by decide +kernel
theorem d_O_maximal_26 : decode b_O_maximal 26 = .ok (.ireturn, 1) := by decide +kernel
theorem d_O_type_0 : decode b_O_type 0 = .ok (.aload_n 0, 1) := by decide +kernel
theorem d_O_type_1 : decode b_O_type 1 = .ok (.getfield 10, 3) := by decide +kernel
theorem d_O_type_4 : decode b_O_type 4 = .ok (.iload_n 1, 1) := by decide +kernel
theorem d_O_type_5 : decode b_O_type 5 = .ok (.invokevirtual 49, 3) := by decide +kernel
theorem d_O_type_8 : decode b_O_type 8 = .ok (.ifCond .ne 5, 3) := by decide +kernel
theorem d_O_type_11 : decode b_O_type 11 = .ok (.iconst (-1), 1) := by decide +kernel
theorem d_O_type_12 : decode b_O_type 12 = .ok (.ireturn, 1) := by decide +kernel
theorem d_O_type_13 : decode b_O_type 13 = .ok (.iload_n 2, 1) := by decide +kernel
theorem d_O_type_14 : decode b_O_type 14 = .ok (.tableswitch 131 0 9 #[54, 63, 72, 81, 90, 90, 90, 90, 102, 114], 54) := by decide +kernel
theorem d_O_type_68 : decode b_O_type 68 = .ok (.aload_n 0, 1) := by decide +kernel
theorem d_O_type_69 : decode b_O_type 69 = .ok (.getfield 10, 3) := by decide +kernel
theorem d_O_type_72 : decode b_O_type 72 = .ok (.iload_n 1, 1) := by decide +kernel
theorem d_O_type_73 : decode b_O_type 73 = .ok (.invokevirtual 146, 3) := by decide +kernel
theorem d_O_type_76 : decode b_O_type 76 = .ok (.ireturn, 1) := by decide +kernel
theorem d_O_type_77 : decode b_O_type 77 = .ok (.aload_n 0, 1) := by decide +kernel
theorem d_O_type_78 : decode b_O_type 78 = .ok (.getfield 10, 3) := by decide +kernel
theorem d_O_type_81 : decode b_O_type 81 = .ok (.iload_n 1, 1) := by decide +kernel
theorem d_O_type_82 : decode b_O_type 82 = .ok (.invokevirtual 149, 3) := by decide +kernel
theorem d_O_type_85 : decode b_O_type 85 = .ok (.ireturn, 1) := by decide +kernel
theorem d_O_type_86 : decode b_O_type 86 = .ok (.aload_n 0, 1) := by decide +kernel
theorem d_O_type_87 : decode b_O_type 87 = .ok (.getfield 10, 3) := by decide +kernel
theorem d_O_type_90 : decode b_O_type 90 = .ok (.iload_n 1, 1) := by decide +kernel
theorem d_O_type_91 : decode b_O_type 91 = .ok (.invokevirtual 70, 3) := by decide +kernel
theorem d_O_type_94 : decode b_O_type 94 = .ok (.ireturn, 1) := by decide +kernel
theorem d_O_type_95 : decode b_O_type 95 = .ok (.aload_n 0, 1) := by decide +kernel
theorem d_O_type_96 : decode b_O_type 96 = .ok (.getfield 10, 3) := by decide +kernel
theorem d_O_type_99 : decode b_O_type 99 = .ok (.iload_n 1, 1) := by decide +kernel
theorem d_O_type_100 : decode b_O_type 100 = .ok (.invokevirtual 59, 3) := by decide +kernel
theorem d_O_type_103 : decode b_O_type 103 = .ok (.ireturn, 1) := by decide +kernel
theorem d_O_type_104 : decode b_O_type 104 = .ok (.aload_n 0, 1) := by decide +kernel
theorem d_O_type_105 : decode b_O_type 105 = .ok (.getfield 10, 3) := by decide +kernel
theorem d_O_type_108 : decode b_O_type 108 = .ok (.iload_n 1, 1) := by decide +kernel
theorem d_O_type_109 : decode b_O_type 109 = .ok (.iload_n 2, 1) := by decide +kernel
theorem d_O_type_110 : decode b_O_type 110 = .ok (.iconst 4, 1) := by decide +kernel
theorem d_O_type_111 : decode b_O_type 111 = .ok (.isub, 1) := by decide +kernel
theorem d_O_type_112 : decode b_O_type 112 = .ok (.invokevirtual 152, 3) := by decide +kernel
theorem d_O_type_115 : decode b_O_type 115 = .ok (.ireturn, 1) := by decide +kernel
theorem d_O_type_116 : decode b_O_type 116 = .ok (.aload_n 0, 1) := by decide +kernel
theorem d_O_type_117 : decode b_O_type 117 = .ok (.getfield 10, 3) := by decide +kernel
theorem d_O_type_120 : decode b_O_type 120 = .ok (.iload_n 1, 1) := by decide +kernel
theorem d_O_type_121 : decode b_O_type 121 = .ok (.invokevirtual 155, 3) := by decide +kernel
theorem d_O_type_124 : decode b_O_type 124 = .ok (.invokestatic 158, 3) := by decide +kernel
theorem d_O_type_127 : decode b_O_type 127 = .ok (.ireturn, 1) := by decide +kernel
theorem d_O_type_128 : decode b_O_type 128 = .ok (.aload_n 0, 1) := by decide +kernel
theorem d_O_type_129 : decode b_O_type 129 = .ok (.getfield 10, 3) := by decide +kernel
theorem d_O_type_132 : decode b_O_type 132 = .ok (.iload_n 1, 1) := by decide +kernel
theorem d_O_type_133 : decode b_O_type 133 = .ok (.invokevirtual 52, 3) := by decide +kernel
theorem d_O_type_136 : decode b_O_type 136 = .ok (.ifCond .eq 7, 3) := by decide +kernel
theorem d_O_type_139 : decode b_O_type 139 = .ok (.iconst 1, 1) := by decide +kernel
theorem d_O_type_140 : decode b_O_type 140 = .ok (.goto 4, 3) := by decide +kernel
theorem d_O_type_143 : decode b_O_type 143 = .ok (.iconst 0, 1) := by decide +kernel
theorem d_O_type_144 : decode b_O_type 144 = .ok (.ireturn, 1) := by decide +kernel
theorem d_O_type_145 : decode b_O_type 145 = .ok (.iconst (-1), 1) := by decide +kernel
theorem d_O_type_146 : decode b_O_type 146 = .ok (.ireturn, 1) := by decide +kernel
theorem d_O_isPackage_0 : decode b_O_isPackage 0 = .ok (.iload_n 0, 1) := by decide +kernel
theorem d_O_isPackage_1 : decode b_O_isPackage 1 = .ok (.ifCond .lt 12, 3) := by decide +kernel
theorem d_O_isPackage_4 : decode b_O_isPackage 4 = .ok (.iload_n 0, 1) := by decide +kernel
theorem d_O_isPackage_5 : decode b_O_isPackage 5 = .ok (.iconst 3, 1) := by decide +kernel
theorem d_O_isPackage_6 : decode b_O_isPackage 6 = .ok (.if_icmp .ge 7, 3) := by decide +kernel
theorem d_O_isPackage_9 : decode b_O_isPackage 9 = .ok (.iconst 1, 1) := by decide +kernel
theorem d_O_isPackage_10 : decode b_O_isPackage 10 = .ok (.goto 4, 3) := by decide +kernel
theorem d_O_isPackage_13 : decode b_O_isPackage 13 = .ok (.iconst 0, 1) := by decide +kernel
theorem d_O_isPackage_14 : decode b_O_isPackage 14 = .ok (.ireturn, 1) := by decide +kernel
theorem d_O_isName_0 : decode b_O_isName 0 = .ok (.iload_n 0, 1) := by decide +kernel
theorem d_O_isName_1 : decode b_O_isName 1 = .ok (.ifCond .lt 12, 3) := by decide +kernel
theorem d_O_isName_4 : decode b_O_isName 4 = .ok (.iload_n 0, 1) := by decide +kernel
theorem d_O_isName_5 : decode b_O_isName 5 = .ok (.iconst 4, 1) := by decide +kernel
theorem d_O_isName_6 : decode b_O_isName 6 = .ok (.if_icmp .ge 7, 3) := by decide +kernel
theorem d_O_isName_9 : decode b_O_isName 9 = .ok (.iconst 1, 1) := by decide +kernel
theorem d_O_isName_10 : decode b_O_isName 10 = .ok (.goto 4, 3) := by decide +kernel
theorem d_O_isName_13 : decode b_O_isName 13 = .ok (.iconst 0, 1) := by decide +kernel
theorem d_O_isName_14 : decode b_O_isName 14 = .ok (.ireturn, 1) := by decide +kernel
theorem d_O_isAccess_0 : decode b_O_isAccess 0 = .ok (.iload_n 0, 1) := by decide +kernel
theorem d_O_isAccess_1 : decode b_O_isAccess 1 = .ok (.ifCond .lt 12, 3) := by decide +kernel
theorem d_O_isAccess_4 : decode b_O_isAccess 4 = .ok (.iload_n 0, 1) := by decide +kernel
theorem d_O_isAccess_5 : decode b_O_isAccess 5 = .ok (.iconst 3, 1) := by decide +kernel
theorem d_O_isAccess_6 : decode b_O_isAccess 6 = .ok (.if_icmp .gt 7, 3) := by decide +kernel
theorem d_O_isAccess_9 : decode b_O_isAccess 9 = .ok (.iconst 1, 1) := by decide +kernel
theorem d_O_isAccess_10 : decode b_O_isAccess 10 = .ok (.goto 4, 3) := by decide +kernel
theorem d_O_isAccess_13 : decode b_O_isAccess 13 = .ok (.iconst 0, 1) := by decide +kernel
theorem d_O_isAccess_14 : decode b_O_isAccess 14 = .ok (.ireturn, 1) := by decide +kernel
theorem d_O_isForm_0 : decode b_O_isForm 0 = .ok (.iload_n 0, 1) := by decide +kernel
theorem d_O_isForm_1 : decode b_O_isForm 1 = .ok (.ifCond .lt 12, 3) := by decide +kernel
theorem d_O_isForm_4 : decode b_O_isForm 4 = .ok (.iload_n 0, 1) := by decide +kernel
theorem d_O_isForm_5 : decode b_O_isForm 5 = .ok (.iconst 2, 1) := by decide +kernel
theorem d_O_isForm_6 : decode b_O_isForm 6 = .ok (.if_icmp .gt 7, 3) := by decide +kernel
theorem d_O_isForm_9 : decode b_O_isForm 9 = .ok (.iconst 1, 1) := by decide +kernel
theorem d_O_isForm_10 : decode b_O_isForm 10 = .ok (.goto 4, 3) := by decide +kernel
theorem d_O_isForm_13 : decode b_O_isForm 13 = .ok (.iconst 0, 1) := by decide +kernel
theorem d_O_isForm_14 : decode b_O_isForm 14 = .ok (.ireturn, 1) := by decide +kernel
theorem d_O_isReceiver_0 : decode b_O_isReceiver 0 = .ok (.iload_n 1, 1) := by decide +kernel
theorem d_O_isReceiver_1 : decode b_O_isReceiver 1 = .ok (.tableswitch 106 0 3 #[31, 62, 72, 95], 31) := by decide +kernel
theorem d_O_isReceiver_32 : decode b_O_isReceiver 32 = .ok (.aload_n 0, 1) := by decide +kernel
theorem d_O_isReceiver_33 : decode b_O_isReceiver 33 = .ok (.getfield 10, 3) := by decide +kernel
theorem d_O_isReceiver_36 : decode b_O_isReceiver 36 = .ok (.iload 4, 2) := by decide +kernel
theorem d_O_isReceiver_38 : decode b_O_isReceiver 38 = .ok (.invokevirtual 136, 3) := by decide +kernel
theorem d_O_isReceiver_41 : decode b_O_isReceiver 41 = .ok (.ifCond .eq 20, 3) := by decide +kernel
theorem d_O_isReceiver_44 : decode b_O_isReceiver 44 = .ok (.aload_n 0, 1) := by decide +kernel
theorem d_O_isReceiver_45 : decode b_O_isReceiver 45 = .ok (.getfield 10, 3) := by decide +kernel
theorem d_O_isReceiver_48 : decode b_O_isReceiver 48 = .ok (.iload 4, 2) := by decide +kernel
theorem d_O_isReceiver_50 : decode b_O_isReceiver 50 = .ok (.iload_n 2, 1) := by decide +kernel
theorem d_O_isReceiver_51 : decode b_O_isReceiver 51 = .ok (.invokevirtual 130, 3) := by decide +kernel
theorem d_O_isReceiver_54 : decode b_O_isReceiver 54 = .ok (.ifCond .eq 7, 3) := by decide +kernel
theorem d_O_isReceiver_57 : decode b_O_isReceiver 57 = .ok (.iconst 1, 1) := by decide +kernel
theorem d_O_isReceiver_58 : decode b_O_isReceiver 58 = .ok (.goto 4, 3) := by decide +kernel
theorem d_O_isReceiver_61 : decode b_O_isReceiver 61 = .ok (.iconst 0, 1) := by decide +kernel
theorem d_O_isReceiver_62 : decode b_O_isReceiver 62 = .ok (.ireturn, 1) := by decide +kernel
theorem d_O_isReceiver_63 : decode b_O_isReceiver 63 = .ok (.aload_n 0, 1) := by decide +kernel
theorem d_O_isReceiver_64 : decode b_O_isReceiver 64 = .ok (.getfield 10, 3) := by decide +kernel
theorem d_O_isReceiver_67 : decode b_O_isReceiver 67 = .ok (.iload 4, 2) := by decide +kernel
theorem d_O_isReceiver_69 : decode b_O_isReceiver 69 = .ok (.invokevirtual 136, 3) := by decide +kernel
theorem d_O_isReceiver_72 : decode b_O_isReceiver 72 = .ok (.ireturn, 1) := by decide +kernel
theorem d_O_isReceiver_73 : decode b_O_isReceiver 73 = .ok (.iload 4, 2) := by decide +kernel
theorem d_O_isReceiver_75 : decode b_O_isReceiver 75 = .ok (.ifCond .ne 19, 3) := by decide +kernel
theorem d_O_isReceiver_78 : decode b_O_isReceiver 78 = .ok (.aload_n 0, 1) := by decide +kernel
theorem d_O_isReceiver_79 : decode b_O_isReceiver 79 = .ok (.getfield 10, 3) := by decide +kernel
theorem d_O_isReceiver_82 : decode b_O_isReceiver 82 = .ok (.iload_n 3, 1) := by decide +kernel
theorem d_O_isReceiver_83 : decode b_O_isReceiver 83 = .ok (.iload_n 2, 1) := by decide +kernel
theorem d_O_isReceiver_84 : decode b_O_isReceiver 84 = .ok (.invokevirtual 130, 3) := by decide +kernel
theorem d_O_isReceiver_87 : decode b_O_isReceiver 87 = .ok (.ifCond .eq 7, 3) := by decide +kernel
theorem d_O_isReceiver_90 : decode b_O_isReceiver 90 = .ok (.iconst 1, 1) := by decide +kernel
theorem d_O_isReceiver_91 : decode b_O_isReceiver 91 = .ok (.goto 4, 3) := by decide +kernel
theorem d_O_isReceiver_94 : decode b_O_isReceiver 94 = .ok (.iconst 0, 1) := by decide +kernel
theorem d_O_isReceiver_95 : decode b_O_isReceiver 95 = .ok (.ireturn, 1) := by decide +kernel
theorem d_O_isReceiver_96 : decode b_O_isReceiver 96 = .ok (.iload 4, 2) := by decide +kernel
theorem d_O_isReceiver_98 : decode b_O_isReceiver 98 = .ok (.ifCond .ne 7, 3) := by decide +kernel
theorem d_O_isReceiver_101 : decode b_O_isReceiver 101 = .ok (.iconst 1, 1) := by decide +kernel
theorem d_O_isReceiver_102 : decode b_O_isReceiver 102 = .ok (.goto 4, 3) := by decide +kernel
theorem d_O_isReceiver_105 : decode b_O_isReceiver 105 = .ok (.iconst 0, 1) := by decide +kernel
theorem d_O_isReceiver_106 : decode b_O_isReceiver 106 = .ok (.ireturn, 1) := by decide +kernel
theorem d_O_isReceiver_107 : decode b_O_isReceiver 107 = .ok (.iconst 0, 1) := by decide +kernel
theorem d_O_isReceiver_108 : decode b_O_isReceiver 108 = .ok (.ireturn, 1) := by decide +kernel
theorem d_O_findField_0 : decode b_O_findField 0 = .ok (.aload_n 0, 1) := by decide +kernel
theorem d_O_findField_1 : decode b_O_findField 1 = .ok (.getfield 10, 3) := by decide +kernel
theorem d_O_findField_4 : decode b_O_findField 4 = .ok (.iload_n 2, 1) := by decide +kernel
theorem d_O_findField_5 : decode b_O_findField 5 = .ok (.iload_n 1, 1) := by decide +kernel
theorem d_O_findField_6 : decode b_O_findField 6 = .ok (.invokevirtual 163, 3) := by decide +kernel
theorem d_O_findField_9 : decode b_O_findField 9 = .ok (.ifCond .ne 6, 3) := by decide +kernel
theorem d_O_findField_12 : decode b_O_findField 12 = .ok (.bipush (-5), 2) := by decide +kernel
theorem d_O_findField_14 : decode b_O_findField 14 = .ok (.ireturn, 1) := by decide +kernel
theorem d_O_findField_15 : decode b_O_findField 15 = .ok (.aload_n 0, 1) := by decide +kernel
theorem d_O_findField_16 : decode b_O_findField 16 = .ok (.getfield 10, 3) := by decide +kernel
theorem d_O_findField_19 : decode b_O_findField 19 = .ok (.iload_n 2, 1) := by decide +kernel
theorem d_O_findField_20 : decode b_O_findField 20 = .ok (.aload_n 0, 1) := by decide +kernel
theorem d_O_findField_21 : decode b_O_findField 21 = .ok (.getfield 19, 3) := by decide +kernel
theorem d_O_findField_24 : decode b_O_findField 24 = .ok (.iload_n 3, 1) := by decide +kernel
theorem d_O_findField_25 : decode b_O_findField 25 = .ok (.invokevirtual 166, 3) := by decide +kernel
theorem d_O_findField_28 : decode b_O_findField 28 = .ok (.invokevirtual 169, 3) := by decide +kernel
theorem d_O_findField_31 : decode b_O_findField 31 = .ok (.istore 4, 2) := by decide +kernel
theorem d_O_findField_33 : decode b_O_findField 33 = .ok (.iload 4, 2) := by decide +kernel
theorem d_O_findField_35 : decode b_O_findField 35 = .ok (.ifCond .ne 8, 3) := by decide +kernel
theorem d_O_findField_38 : decode b_O_findField 38 = .ok (.bipush (-3), 2) := by decide +kernel
theorem d_O_findField_40 : decode b_O_findField 40 = .ok (.goto 5, 3) := by decide +kernel
theorem d_O_findField_43 : decode b_O_findField 43 = .ok (.iload 4, 2) := by decide +kernel
theorem d_O_findField_45 : decode b_O_findField 45 = .ok (.ireturn, 1) := by decide +kernel
theorem d_O_resolveMethod_0 : decode b_O_resolveMethod 0 = .ok (.aload_n 0, 1) := by decide +kernel
theorem d_O_resolveMethod_1 : decode b_O_resolveMethod 1 = .ok (.iconst 0, 1) := by decide +kernel
theorem d_O_resolveMethod_2 : decode b_O_resolveMethod 2 = .ok (.putfield 26, 3) := by decide +kernel
theorem d_O_resolveMethod_5 : decode b_O_resolveMethod 5 = .ok (.aload_n 0, 1) := by decide +kernel
theorem d_O_resolveMethod_6 : decode b_O_resolveMethod 6 = .ok (.getfield 10, 3) := by decide +kernel
theorem d_O_resolveMethod_9 : decode b_O_resolveMethod 9 = .ok (.iload_n 3, 1) := by decide +kernel
theorem d_O_resolveMethod_10 : decode b_O_resolveMethod 10 = .ok (.iload_n 2, 1) := by decide +kernel
theorem d_O_resolveMethod_11 : decode b_O_resolveMethod 11 = .ok (.invokevirtual 163, 3) := by decide +kernel
theorem d_O_resolveMethod_14 : decode b_O_resolveMethod 14 = .ok (.ifCond .ne 6, 3) := by decide +kernel
theorem d_O_resolveMethod_17 : decode b_O_resolveMethod 17 = .ok (.bipush (-5), 2) := by decide +kernel
theorem d_O_resolveMethod_19 : decode b_O_resolveMethod 19 = .ok (.ireturn, 1) := by decide +kernel
theorem d_O_resolveMethod_20 : decode b_O_resolveMethod 20 = .ok (.aload_n 0, 1) := by decide +kernel
theorem d_O_resolveMethod_21 : decode b_O_resolveMethod 21 = .ok (.getfield 10, 3) := by decide +kernel
theorem d_O_resolveMethod_24 : decode b_O_resolveMethod 24 = .ok (.iload_n 3, 1) := by decide +kernel
theorem d_O_resolveMethod_25 : decode b_O_resolveMethod 25 = .ok (.invokevirtual 52, 3) := by decide +kernel
theorem d_O_resolveMethod_28 : decode b_O_resolveMethod 28 = .ok (.iload_n 1, 1) := by decide +kernel
theorem d_O_resolveMethod_29 : decode b_O_resolveMethod 29 = .ok (.if_icmp .eq 6, 3) := by decide +kernel
theorem d_O_resolveMethod_32 : decode b_O_resolveMethod 32 = .ok (.bipush (-6), 2) := by decide +kernel
theorem d_O_resolveMethod_34 : decode b_O_resolveMethod 34 = .ok (.ireturn, 1) := by decide +kernel
theorem d_O_resolveMethod_35 : decode b_O_resolveMethod 35 = .ok (.aload_n 0, 1) := by decide +kernel
theorem d_O_resolveMethod_36 : decode b_O_resolveMethod 36 = .ok (.getfield 10, 3) := by decide +kernel
theorem d_O_resolveMethod_39 : decode b_O_resolveMethod 39 = .ok (.iload_n 3, 1) := by decide +kernel
theorem d_O_resolveMethod_40 : decode b_O_resolveMethod 40 = .ok (.invokevirtual 172, 3) := by decide +kernel
theorem d_O_resolveMethod_43 : decode b_O_resolveMethod 43 = .ok (.aload_n 0, 1) := by decide +kernel
theorem d_O_resolveMethod_44 : decode b_O_resolveMethod 44 = .ok (.getfield 23, 3) := by decide +kernel
theorem d_O_resolveMethod_47 : decode b_O_resolveMethod 47 = .ok (.iload 4, 2) := by decide +kernel
theorem d_O_resolveMethod_49 : decode b_O_resolveMethod 49 = .ok (.invokevirtual 166, 3) := by decide +kernel
theorem d_O_resolveMethod_52 : decode b_O_resolveMethod 52 = .ok (.iand, 1) := by decide +kernel
theorem d_O_resolveMethod_53 : decode b_O_resolveMethod 53 = .ok (.invokestatic 175, 3) := by decide +kernel
theorem d_O_resolveMethod_56 : decode b_O_resolveMethod 56 = .ok (.istore 5, 2) := by decide +kernel
theorem d_O_resolveMethod_58 : decode b_O_resolveMethod 58 = .ok (.iload 5, 2) := by decide +kernel
theorem d_O_resolveMethod_60 : decode b_O_resolveMethod 60 = .ok (.ifCond .ne 12, 3) := by decide +kernel
theorem d_O_resolveMethod_63 : decode b_O_resolveMethod 63 = .ok (.aload_n 0, 1) := by decide +kernel
theorem d_O_resolveMethod_64 : decode b_O_resolveMethod 64 = .ok (.iload_n 3, 1) := by decide +kernel
theorem d_O_resolveMethod_65 : decode b_O_resolveMethod 65 = .ok (.iload 4, 2) := by decide +kernel
theorem d_O_resolveMethod_67 : decode b_O_resolveMethod 67 = .ok (.invokevirtual 178, 3) := by decide +kernel
theorem d_O_resolveMethod_70 : decode b_O_resolveMethod 70 = .ok (.istore 5, 2) := by decide +kernel
theorem d_O_resolveMethod_72 : decode b_O_resolveMethod 72 = .ok (.iload 5, 2) := by decide +kernel
theorem d_O_resolveMethod_74 : decode b_O_resolveMethod 74 = .ok (.ifCond .le 22, 3) := by decide +kernel
theorem d_O_resolveMethod_77 : decode b_O_resolveMethod 77 = .ok (.aload_n 0, 1) := by decide +kernel
theorem d_O_resolveMethod_78 : decode b_O_resolveMethod 78 = .ok (.iconst 1, 1) := by decide +kernel
theorem d_O_resolveMethod_79 : decode b_O_resolveMethod 79 = .ok (.putfield 26, 3) := by decide +kernel
theorem d_O_resolveMethod_82 : decode b_O_resolveMethod 82 = .ok (.aload_n 0, 1) := by decide +kernel
theorem d_O_resolveMethod_83 : decode b_O_resolveMethod 83 = .ok (.aload_n 0, 1) := by decide +kernel
theorem d_O_resolveMethod_84 : decode b_O_resolveMethod 84 = .ok (.getfield 23, 3) := by decide +kernel
theorem d_O_resolveMethod_87 : decode b_O_resolveMethod 87 = .ok (.iload 5, 2) := by decide +kernel
theorem d_O_resolveMethod_89 : decode b_O_resolveMethod 89 = .ok (.iload 4, 2) := by decide +kernel
theorem d_O_resolveMethod_91 : decode b_O_resolveMethod 91 = .ok (.iload_n 2, 1) := by decide +kernel
theorem d_O_resolveMethod_92 : decode b_O_resolveMethod 92 = .ok (.invokevirtual 102, 3) := by decide +kernel
theorem d_O_resolveMethod_95 : decode b_O_resolveMethod 95 = .ok (.ireturn, 1) := by decide +kernel
theorem d_O_resolveMethod_96 : decode b_O_resolveMethod 96 = .ok (.aload_n 0, 1) := by decide +kernel
theorem d_O_resolveMethod_97 : decode b_O_resolveMethod 97 = .ok (.iload_n 3, 1) := by decide +kernel
theorem d_O_resolveMethod_98 : decode b_O_resolveMethod 98 = .ok (.iload 4, 2) := by decide +kernel
theorem d_O_resolveMethod_100 : decode b_O_resolveMethod 100 = .ok (.invokevirtual 181, 3) := by decide +kernel
theorem d_O_resolveMethod_103 : decode b_O_resolveMethod 103 = .ok (.istore 6, 2) := by decide +kernel
theorem d_O_resolveMethod_105 : decode b_O_resolveMethod 105 = .ok (.aload_n 0, 1) := by decide +kernel
theorem d_O_resolveMethod_106 : decode b_O_resolveMethod 106 = .ok (.iload 6, 2) := by decide +kernel
theorem d_O_resolveMethod_108 : decode b_O_resolveMethod 108 = .ok (.invokestatic 158, 3) := by decide +kernel
theorem d_O_resolveMethod_111 : decode b_O_resolveMethod 111 = .ok (.putfield 26, 3) := by decide +kernel
theorem d_O_resolveMethod_114 : decode b_O_resolveMethod 114 = .ok (.iload 6, 2) := by decide +kernel
theorem d_O_resolveMethod_116 : decode b_O_resolveMethod 116 = .ok (.ifCond .ne 8, 3) := by decide +kernel
theorem d_O_resolveMethod_119 : decode b_O_resolveMethod 119 = .ok (.bipush (-4), 2) := by decide +kernel
theorem d_O_resolveMethod_121 : decode b_O_resolveMethod 121 = .ok (.goto 8, 3) := by decide +kernel
theorem d_O_resolveMethod_124 : decode b_O_resolveMethod 124 = .ok (.iload 6, 2) := by decide +kernel
theorem d_O_resolveMethod_126 : decode b_O_resolveMethod 126 = .ok (.invokestatic 184, 3) := by decide +kernel
theorem d_O_resolveMethod_129 : decode b_O_resolveMethod 129 = .ok (.ireturn, 1) := by decide +kernel
theorem d_O_admitted_0 : decode b_O_admitted 0 = .ok (.iload_n 2, 1) := by decide +kernel
theorem d_O_admitted_1 : decode b_O_admitted 1 = .ok (.ifCond .gt 5, 3) := by decide +kernel
theorem d_O_admitted_4 : decode b_O_admitted 4 = .ok (.iload_n 2, 1) := by decide +kernel
theorem d_O_admitted_5 : decode b_O_admitted 5 = .ok (.ireturn, 1) := by decide +kernel
theorem d_O_admitted_6 : decode b_O_admitted 6 = .ok (.aload_n 0, 1) := by decide +kernel
theorem d_O_admitted_7 : decode b_O_admitted 7 = .ok (.iload_n 2, 1) := by decide +kernel
theorem d_O_admitted_8 : decode b_O_admitted 8 = .ok (.aload_n 1, 1) := by decide +kernel
theorem d_O_admitted_9 : decode b_O_admitted 9 = .ok (.iload_n 2, 1) := by decide +kernel
theorem d_O_admitted_10 : decode b_O_admitted 10 = .ok (.iload_n 3, 1) := by decide +kernel
theorem d_O_admitted_11 : decode b_O_admitted 11 = .ok (.invokevirtual 187, 3) := by decide +kernel
theorem d_O_admitted_14 : decode b_O_admitted 14 = .ok (.iload 4, 2) := by decide +kernel
theorem d_O_admitted_16 : decode b_O_admitted 16 = .ok (.invokevirtual 190, 3) := by decide +kernel
theorem d_O_admitted_19 : decode b_O_admitted 19 = .ok (.ifCond .eq 7, 3) := by decide +kernel
theorem d_O_admitted_22 : decode b_O_admitted 22 = .ok (.iload_n 2, 1) := by decide +kernel
theorem d_O_admitted_23 : decode b_O_admitted 23 = .ok (.goto 5, 3) := by decide +kernel
theorem d_O_admitted_26 : decode b_O_admitted 26 = .ok (.bipush (-5), 2) := by decide +kernel
theorem d_O_admitted_28 : decode b_O_admitted 28 = .ok (.ireturn, 1) := by decide +kernel
theorem d_O_mayUseMember_0 : decode b_O_mayUseMember 0 = .ok (.iload_n 2, 1) := by decide +kernel
theorem d_O_mayUseMember_1 : decode b_O_mayUseMember 1 = .ok (.tableswitch 69 1 3 #[59, 29, 27], 27) := by decide +kernel
theorem d_O_mayUseMember_28 : decode b_O_mayUseMember 28 = .ok (.iconst 1, 1) := by decide +kernel
theorem d_O_mayUseMember_29 : decode b_O_mayUseMember 29 = .ok (.ireturn, 1) := by decide +kernel
theorem d_O_mayUseMember_30 : decode b_O_mayUseMember 30 = .ok (.aload_n 0, 1) := by decide +kernel
theorem d_O_mayUseMember_31 : decode b_O_mayUseMember 31 = .ok (.getfield 10, 3) := by decide +kernel
theorem d_O_mayUseMember_34 : decode b_O_mayUseMember 34 = .ok (.iload_n 1, 1) := by decide +kernel
theorem d_O_mayUseMember_35 : decode b_O_mayUseMember 35 = .ok (.iload_n 3, 1) := by decide +kernel
theorem d_O_mayUseMember_36 : decode b_O_mayUseMember 36 = .ok (.invokevirtual 67, 3) := by decide +kernel
theorem d_O_mayUseMember_39 : decode b_O_mayUseMember 39 = .ok (.ifCond .ne 15, 3) := by decide +kernel
theorem d_O_mayUseMember_42 : decode b_O_mayUseMember 42 = .ok (.aload_n 0, 1) := by decide +kernel
theorem d_O_mayUseMember_43 : decode b_O_mayUseMember 43 = .ok (.getfield 10, 3) := by decide +kernel
theorem d_O_mayUseMember_46 : decode b_O_mayUseMember 46 = .ok (.iload_n 3, 1) := by decide +kernel
theorem d_O_mayUseMember_47 : decode b_O_mayUseMember 47 = .ok (.iload_n 1, 1) := by decide +kernel
theorem d_O_mayUseMember_48 : decode b_O_mayUseMember 48 = .ok (.invokevirtual 130, 3) := by decide +kernel
theorem d_O_mayUseMember_51 : decode b_O_mayUseMember 51 = .ok (.ifCond .eq 7, 3) := by decide +kernel
theorem d_O_mayUseMember_54 : decode b_O_mayUseMember 54 = .ok (.iconst 1, 1) := by decide +kernel
theorem d_O_mayUseMember_55 : decode b_O_mayUseMember 55 = .ok (.goto 4, 3) := by decide +kernel
theorem d_O_mayUseMember_58 : decode b_O_mayUseMember 58 = .ok (.iconst 0, 1) := by decide +kernel
theorem d_O_mayUseMember_59 : decode b_O_mayUseMember 59 = .ok (.ireturn, 1) := by decide +kernel
theorem d_O_mayUseMember_60 : decode b_O_mayUseMember 60 = .ok (.aload_n 0, 1) := by decide +kernel
theorem d_O_mayUseMember_61 : decode b_O_mayUseMember 61 = .ok (.getfield 10, 3) := by decide +kernel
theorem d_O_mayUseMember_64 : decode b_O_mayUseMember 64 = .ok (.iload_n 1, 1) := by decide +kernel
theorem d_O_mayUseMember_65 : decode b_O_mayUseMember 65 = .ok (.iload_n 3, 1) := by decide +kernel
theorem d_O_mayUseMember_66 : decode b_O_mayUseMember 66 = .ok (.invokevirtual 67, 3) := by decide +kernel
theorem d_O_mayUseMember_69 : decode b_O_mayUseMember 69 = .ok (.ireturn, 1) := by decide +kernel
theorem d_O_mayUseMember_70 : decode b_O_mayUseMember 70 = .ok (.aload_n 0, 1) := by decide +kernel
theorem d_O_mayUseMember_71 : decode b_O_mayUseMember 71 = .ok (.getfield 10, 3) := by decide +kernel
theorem d_O_mayUseMember_74 : decode b_O_mayUseMember 74 = .ok (.iload_n 1, 1) := by decide +kernel
theorem d_O_mayUseMember_75 : decode b_O_mayUseMember 75 = .ok (.iload_n 3, 1) := by decide +kernel
theorem d_O_mayUseMember_76 : decode b_O_mayUseMember 76 = .ok (.invokevirtual 133, 3) := by decide +kernel
theorem d_O_mayUseMember_79 : decode b_O_mayUseMember 79 = .ok (.ireturn, 1) := by decide +kernel
theorem d_O_interfaceMethods_0 : decode b_O_interfaceMethods 0 = .ok (.aload_n 0, 1) := by decide +kernel
theorem d_O_interfaceMethods_1 : decode b_O_interfaceMethods 1 = .ok (.getfield 10, 3) := by decide +kernel
theorem d_O_interfaceMethods_4 : decode b_O_interfaceMethods 4 = .ok (.iload_n 1, 1) := by decide +kernel
theorem d_O_interfaceMethods_5 : decode b_O_interfaceMethods 5 = .ok (.invokevirtual 155, 3) := by decide +kernel
theorem d_O_interfaceMethods_8 : decode b_O_interfaceMethods 8 = .ok (.aload_n 0, 1) := by decide +kernel
theorem d_O_interfaceMethods_9 : decode b_O_interfaceMethods 9 = .ok (.getfield 10, 3) := by decide +kernel
theorem d_O_interfaceMethods_12 : decode b_O_interfaceMethods 12 = .ok (.invokevirtual 193, 3) := by decide +kernel
theorem d_O_interfaceMethods_15 : decode b_O_interfaceMethods 15 = .ok (.iand, 1) := by decide +kernel
theorem d_O_interfaceMethods_16 : decode b_O_interfaceMethods 16 = .ok (.aload_n 0, 1) := by decide +kernel
theorem d_O_interfaceMethods_17 : decode b_O_interfaceMethods 17 = .ok (.getfield 23, 3) := by decide +kernel
theorem d_O_interfaceMethods_20 : decode b_O_interfaceMethods 20 = .ok (.iload_n 2, 1) := by decide +kernel
theorem d_O_interfaceMethods_21 : decode b_O_interfaceMethods 21 = .ok (.invokevirtual 197, 3) := by decide +kernel
theorem d_O_interfaceMethods_24 : decode b_O_interfaceMethods 24 = .ok (.iand, 1) := by decide +kernel
theorem d_O_interfaceMethods_25 : decode b_O_interfaceMethods 25 = .ok (.ireturn, 1) := by decide +kernel
theorem d_O_maximalSet_0 : decode b_O_maximalSet 0 = .ok (.aload_n 0, 1) := by decide +kernel
theorem d_O_maximalSet_1 : decode b_O_maximalSet 1 = .ok (.iload_n 1, 1) := by decide +kernel
theorem d_O_maximalSet_2 : decode b_O_maximalSet 2 = .ok (.iload_n 2, 1) := by decide +kernel
theorem d_O_maximalSet_3 : decode b_O_maximalSet 3 = .ok (.invokevirtual 181, 3) := by decide +kernel
theorem d_O_maximalSet_6 : decode b_O_maximalSet 6 = .ok (.istore_n 3, 1) := by decide +kernel
theorem d_O_maximalSet_7 : decode b_O_maximalSet 7 = .ok (.iload_n 3, 1) := by decide +kernel
theorem d_O_maximalSet_8 : decode b_O_maximalSet 8 = .ok (.istore 4, 2) := by decide +kernel
theorem d_O_maximalSet_10 : decode b_O_maximalSet 10 = .ok (.iconst 1, 1) := by decide +kernel
theorem d_O_maximalSet_11 : decode b_O_maximalSet 11 = .ok (.istore 5, 2) := by decide +kernel
theorem d_O_maximalSet_13 : decode b_O_maximalSet 13 = .ok (.iload 5, 2) := by decide +kernel
theorem d_O_maximalSet_15 : decode b_O_maximalSet 15 = .ok (.bipush 12, 2) := by decide +kernel
theorem d_O_maximalSet_17 : decode b_O_maximalSet 17 = .ok (.if_icmp .gt 34, 3) := by decide +kernel
theorem d_O_maximalSet_20 : decode b_O_maximalSet 20 = .ok (.iload_n 3, 1) := by decide +kernel
theorem d_O_maximalSet_21 : decode b_O_maximalSet 21 = .ok (.iload 5, 2) := by decide +kernel
theorem d_O_maximalSet_23 : decode b_O_maximalSet 23 = .ok (.invokestatic 200, 3) := by decide +kernel
theorem d_O_maximalSet_26 : decode b_O_maximalSet 26 = .ok (.ifCond .eq 19, 3) := by decide +kernel
theorem d_O_maximalSet_29 : decode b_O_maximalSet 29 = .ok (.iload 4, 2) := by decide +kernel
theorem d_O_maximalSet_31 : decode b_O_maximalSet 31 = .ok (.aload_n 0, 1) := by decide +kernel
theorem d_O_maximalSet_32 : decode b_O_maximalSet 32 = .ok (.getfield 10, 3) := by decide +kernel
theorem d_O_maximalSet_35 : decode b_O_maximalSet 35 = .ok (.iload 5, 2) := by decide +kernel
theorem d_O_maximalSet_37 : decode b_O_maximalSet 37 = .ok (.invokevirtual 155, 3) := by decide +kernel
theorem d_O_maximalSet_40 : decode b_O_maximalSet 40 = .ok (.iconst (-1), 1) := by decide +kernel
theorem d_O_maximalSet_41 : decode b_O_maximalSet 41 = .ok (.ixor, 1) := by decide +kernel
theorem d_O_maximalSet_42 : decode b_O_maximalSet 42 = .ok (.iand, 1) := by decide +kernel
theorem d_O_maximalSet_43 : decode b_O_maximalSet 43 = .ok (.istore 4, 2) := by decide +kernel
theorem d_O_maximalSet_45 : decode b_O_maximalSet 45 = .ok (.iinc 5 1, 3) := by decide +kernel
theorem d_O_maximalSet_48 : decode b_O_maximalSet 48 = .ok (.goto (-35), 3) := by decide +kernel
theorem d_O_maximalSet_51 : decode b_O_maximalSet 51 = .ok (.iload 4, 2) := by decide +kernel
theorem d_O_maximalSet_53 : decode b_O_maximalSet 53 = .ok (.ireturn, 1) := by decide +kernel
theorem d_O_bestOfInterfaces_0 : decode b_O_bestOfInterfaces 0 = .ok (.aload_n 0, 1) := by decide +kernel
theorem d_O_bestOfInterfaces_1 : decode b_O_bestOfInterfaces 1 = .ok (.iload_n 1, 1) := by decide +kernel
theorem d_O_bestOfInterfaces_2 : decode b_O_bestOfInterfaces 2 = .ok (.iload_n 2, 1) := by decide +kernel
theorem d_O_bestOfInterfaces_3 : decode b_O_bestOfInterfaces 3 = .ok (.invokevirtual 143, 3) := by decide +kernel
theorem d_O_bestOfInterfaces_6 : decode b_O_bestOfInterfaces 6 = .ok (.aload_n 0, 1) := by decide +kernel
theorem d_O_bestOfInterfaces_7 : decode b_O_bestOfInterfaces 7 = .ok (.getfield 23, 3) := by decide +kernel
theorem d_O_bestOfInterfaces_10 : decode b_O_bestOfInterfaces 10 = .ok (.iload_n 2, 1) := by decide +kernel
theorem d_O_bestOfInterfaces_11 : decode b_O_bestOfInterfaces 11 = .ok (.invokevirtual 203, 3) := by decide +kernel
theorem d_O_bestOfInterfaces_14 : decode b_O_bestOfInterfaces 14 = .ok (.iconst (-1), 1) := by decide +kernel
theorem d_O_bestOfInterfaces_15 : decode b_O_bestOfInterfaces 15 = .ok (.ixor, 1) := by decide +kernel
theorem d_O_bestOfInterfaces_16 : decode b_O_bestOfInterfaces 16 = .ok (.iand, 1) := by decide +kernel
theorem d_O_bestOfInterfaces_17 : decode b_O_bestOfInterfaces 17 = .ok (.istore_n 3, 1) := by decide +kernel
theorem d_O_bestOfInterfaces_18 : decode b_O_bestOfInterfaces 18 = .ok (.iload_n 3, 1) := by decide +kernel
theorem d_O_bestOfInterfaces_19 : decode b_O_bestOfInterfaces 19 = .ok (.invokestatic 158, 3) := by decide +kernel
theorem d_O_bestOfInterfaces_22 : decode b_O_bestOfInterfaces 22 = .ok (.lookupswitch 34 #[(0, 26), (1, 29)], 26) := by decide +kernel
theorem d_O_bestOfInterfaces_48 : decode b_O_bestOfInterfaces 48 = .ok (.bipush (-7), 2) := by decide +kernel
theorem d_O_bestOfInterfaces_50 : decode b_O_bestOfInterfaces 50 = .ok (.ireturn, 1) := by decide +kernel
theorem d_O_bestOfInterfaces_51 : decode b_O_bestOfInterfaces 51 = .ok (.iload_n 3, 1) := by decide +kernel
theorem d_O_bestOfInterfaces_52 : decode b_O_bestOfInterfaces 52 = .ok (.invokestatic 184, 3) := by decide +kernel
theorem d_O_bestOfInterfaces_55 : decode b_O_bestOfInterfaces 55 = .ok (.ireturn, 1) := by decide +kernel
theorem d_O_bestOfInterfaces_56 : decode b_O_bestOfInterfaces 56 = .ok (.bipush (-6), 2) := by decide +kernel
theorem d_O_bestOfInterfaces_58 : decode b_O_bestOfInterfaces 58 = .ok (.ireturn, 1) := by decide +kernel
theorem d_O_canOverride_0 : decode b_O_canOverride 0 = .ok (.aload_n 0, 1) := by decide +kernel
theorem d_O_canOverride_1 : decode b_O_canOverride 1 = .ok (.getfield 23, 3) := by decide +kernel
theorem d_O_canOverride_4 : decode b_O_canOverride 4 = .ok (.iload_n 3, 1) := by decide +kernel
theorem d_O_canOverride_5 : decode b_O_canOverride 5 = .ok (.invokevirtual 206, 3) := by decide +kernel
theorem d_O_canOverride_8 : decode b_O_canOverride 8 = .ok (.istore 4, 2) := by decide +kernel
theorem d_O_canOverride_10 : decode b_O_canOverride 10 = .ok (.iload 4, 2) := by decide +kernel
theorem d_O_canOverride_12 : decode b_O_canOverride 12 = .ok (.iload_n 2, 1) := by decide +kernel
theorem d_O_canOverride_13 : decode b_O_canOverride 13 = .ok (.invokestatic 200, 3) := by decide +kernel
theorem d_O_canOverride_16 : decode b_O_canOverride 16 = .ok (.ifCond .ne 5, 3) := by decide +kernel
theorem d_O_canOverride_19 : decode b_O_canOverride 19 = .ok (.iconst 0, 1) := by decide +kernel
theorem d_O_canOverride_20 : decode b_O_canOverride 20 = .ok (.ireturn, 1) := by decide +kernel
theorem d_O_canOverride_21 : decode b_O_canOverride 21 = .ok (.aload_n 0, 1) := by decide +kernel
theorem d_O_canOverride_22 : decode b_O_canOverride 22 = .ok (.getfield 10, 3) := by decide +kernel
theorem d_O_canOverride_25 : decode b_O_canOverride 25 = .ok (.iload_n 1, 1) := by decide +kernel
