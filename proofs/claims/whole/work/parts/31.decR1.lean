theorem d_R_untell_18 : decode b_R_untell 18 = .ok (.iconst 0, 1) := by decide +kernel
theorem d_R_untell_19 : decode b_R_untell 19 = .ok (.iconst 3, 1) := by decide +kernel
theorem d_R_untell_20 : decode b_R_untell 20 = .ok (.invokestatic 54, 3) := by decide +kernel
theorem d_R_untell_23 : decode b_R_untell 23 = .ok (.ifCond .ne 5, 3) := by decide +kernel
theorem d_R_untell_26 : decode b_R_untell 26 = .ok (.iconst (-1), 1) := by decide +kernel
theorem d_R_untell_27 : decode b_R_untell 27 = .ok (.ireturn, 1) := by decide +kernel
theorem d_R_untell_28 : decode b_R_untell 28 = .ok (.iload_n 2, 1) := by decide +kernel
theorem d_R_untell_29 : decode b_R_untell 29 = .ok (.ifCond .ne 16, 3) := by decide +kernel
theorem d_R_untell_32 : decode b_R_untell 32 = .ok (.aload_n 0, 1) := by decide +kernel
theorem d_R_untell_33 : decode b_R_untell 33 = .ok (.getfield 35, 3) := by decide +kernel
theorem d_R_untell_36 : decode b_R_untell 36 = .ok (.iconst 4, 1) := by decide +kernel
theorem d_R_untell_37 : decode b_R_untell 37 = .ok (.iload_n 1, 1) := by decide +kernel
theorem d_R_untell_38 : decode b_R_untell 38 = .ok (.imul, 1) := by decide +kernel
theorem d_R_untell_39 : decode b_R_untell 39 = .ok (.iload_n 3, 1) := by decide +kernel
theorem d_R_untell_40 : decode b_R_untell 40 = .ok (.iadd, 1) := by decide +kernel
theorem d_R_untell_41 : decode b_R_untell 41 = .ok (.iaload, 1) := by decide +kernel
theorem d_R_untell_42 : decode b_R_untell 42 = .ok (.goto 13, 3) := by decide +kernel
theorem d_R_untell_45 : decode b_R_untell 45 = .ok (.aload_n 0, 1) := by decide +kernel
theorem d_R_untell_46 : decode b_R_untell 46 = .ok (.getfield 38, 3) := by decide +kernel
theorem d_R_untell_49 : decode b_R_untell 49 = .ok (.iconst 4, 1) := by decide +kernel
theorem d_R_untell_50 : decode b_R_untell 50 = .ok (.iload_n 1, 1) := by decide +kernel
theorem d_R_untell_51 : decode b_R_untell 51 = .ok (.imul, 1) := by decide +kernel
theorem d_R_untell_52 : decode b_R_untell 52 = .ok (.iload_n 3, 1) := by decide +kernel
theorem d_R_untell_53 : decode b_R_untell 53 = .ok (.iadd, 1) := by decide +kernel
theorem d_R_untell_54 : decode b_R_untell 54 = .ok (.iaload, 1) := by decide +kernel
theorem d_R_untell_55 : decode b_R_untell 55 = .ok (.istore 4, 2) := by decide +kernel
theorem d_R_untell_57 : decode b_R_untell 57 = .ok (.iload 4, 2) := by decide +kernel
theorem d_R_untell_59 : decode b_R_untell 59 = .ok (.ifCond .ge 5, 3) := by decide +kernel
theorem d_R_untell_62 : decode b_R_untell 62 = .ok (.iconst (-1), 1) := by decide +kernel
theorem d_R_untell_63 : decode b_R_untell 63 = .ok (.ireturn, 1) := by decide +kernel
theorem d_R_untell_64 : decode b_R_untell 64 = .ok (.iload_n 2, 1) := by decide +kernel
theorem d_R_untell_65 : decode b_R_untell 65 = .ok (.ifCond .ne 17, 3) := by decide +kernel
theorem d_R_untell_68 : decode b_R_untell 68 = .ok (.aload_n 0, 1) := by decide +kernel
theorem d_R_untell_69 : decode b_R_untell 69 = .ok (.getfield 35, 3) := by decide +kernel
theorem d_R_untell_72 : decode b_R_untell 72 = .ok (.iconst 4, 1) := by decide +kernel
theorem d_R_untell_73 : decode b_R_untell 73 = .ok (.iload_n 1, 1) := by decide +kernel
theorem d_R_untell_74 : decode b_R_untell 74 = .ok (.imul, 1) := by decide +kernel
theorem d_R_untell_75 : decode b_R_untell 75 = .ok (.iload_n 3, 1) := by decide +kernel
theorem d_R_untell_76 : decode b_R_untell 76 = .ok (.iadd, 1) := by decide +kernel
theorem d_R_untell_77 : decode b_R_untell 77 = .ok (.iconst (-1), 1) := by decide +kernel
theorem d_R_untell_78 : decode b_R_untell 78 = .ok (.iastore, 1) := by decide +kernel
theorem d_R_untell_79 : decode b_R_untell 79 = .ok (.goto 14, 3) := by decide +kernel
theorem d_R_untell_82 : decode b_R_untell 82 = .ok (.aload_n 0, 1) := by decide +kernel
theorem d_R_untell_83 : decode b_R_untell 83 = .ok (.getfield 38, 3) := by decide +kernel
theorem d_R_untell_86 : decode b_R_untell 86 = .ok (.iconst 4, 1) := by decide +kernel
theorem d_R_untell_87 : decode b_R_untell 87 = .ok (.iload_n 1, 1) := by decide +kernel
theorem d_R_untell_88 : decode b_R_untell 88 = .ok (.imul, 1) := by decide +kernel
theorem d_R_untell_89 : decode b_R_untell 89 = .ok (.iload_n 3, 1) := by decide +kernel
theorem d_R_untell_90 : decode b_R_untell 90 = .ok (.iadd, 1) := by decide +kernel
theorem d_R_untell_91 : decode b_R_untell 91 = .ok (.iconst (-1), 1) := by decide +kernel
theorem d_R_untell_92 : decode b_R_untell 92 = .ok (.iastore, 1) := by decide +kernel
theorem d_R_untell_93 : decode b_R_untell 93 = .ok (.iconst 0, 1) := by decide +kernel
theorem d_R_untell_94 : decode b_R_untell 94 = .ok (.ireturn, 1) := by decide +kernel
theorem d_R_closeAbove_0 : decode b_R_closeAbove 0 = .ok (.iconst 1, 1) := by decide +kernel
theorem d_R_closeAbove_1 : decode b_R_closeAbove 1 = .ok (.istore_n 1, 1) := by decide +kernel
theorem d_R_closeAbove_2 : decode b_R_closeAbove 2 = .ok (.iload_n 1, 1) := by decide +kernel
theorem d_R_closeAbove_3 : decode b_R_closeAbove 3 = .ok (.aload_n 0, 1) := by decide +kernel
theorem d_R_closeAbove_4 : decode b_R_closeAbove 4 = .ok (.getfield 50, 3) := by decide +kernel
theorem d_R_closeAbove_7 : decode b_R_closeAbove 7 = .ok (.if_icmp .gt 103, 3) := by decide +kernel
theorem d_R_closeAbove_10 : decode b_R_closeAbove 10 = .ok (.aload_n 0, 1) := by decide +kernel
theorem d_R_closeAbove_11 : decode b_R_closeAbove 11 = .ok (.getfield 41, 3) := by decide +kernel
theorem d_R_closeAbove_14 : decode b_R_closeAbove 14 = .ok (.iload_n 1, 1) := by decide +kernel
theorem d_R_closeAbove_15 : decode b_R_closeAbove 15 = .ok (.aload_n 0, 1) := by decide +kernel
theorem d_R_closeAbove_16 : decode b_R_closeAbove 16 = .ok (.getfield 23, 3) := by decide +kernel
theorem d_R_closeAbove_19 : decode b_R_closeAbove 19 = .ok (.iload_n 1, 1) := by decide +kernel
theorem d_R_closeAbove_20 : decode b_R_closeAbove 20 = .ok (.iaload, 1) := by decide +kernel
theorem d_R_closeAbove_21 : decode b_R_closeAbove 21 = .ok (.ifCond .ne 7, 3) := by decide +kernel
theorem d_R_closeAbove_24 : decode b_R_closeAbove 24 = .ok (.iconst 0, 1) := by decide +kernel
theorem d_R_closeAbove_25 : decode b_R_closeAbove 25 = .ok (.goto 23, 3) := by decide +kernel
theorem d_R_closeAbove_28 : decode b_R_closeAbove 28 = .ok (.aload_n 0, 1) := by decide +kernel
theorem d_R_closeAbove_29 : decode b_R_closeAbove 29 = .ok (.getfield 41, 3) := by decide +kernel
theorem d_R_closeAbove_32 : decode b_R_closeAbove 32 = .ok (.aload_n 0, 1) := by decide +kernel
theorem d_R_closeAbove_33 : decode b_R_closeAbove 33 = .ok (.getfield 23, 3) := by decide +kernel
theorem d_R_closeAbove_36 : decode b_R_closeAbove 36 = .ok (.iload_n 1, 1) := by decide +kernel
theorem d_R_closeAbove_37 : decode b_R_closeAbove 37 = .ok (.iaload, 1) := by decide +kernel
theorem d_R_closeAbove_38 : decode b_R_closeAbove 38 = .ok (.iaload, 1) := by decide +kernel
theorem d_R_closeAbove_39 : decode b_R_closeAbove 39 = .ok (.iconst 1, 1) := by decide +kernel
theorem d_R_closeAbove_40 : decode b_R_closeAbove 40 = .ok (.aload_n 0, 1) := by decide +kernel
theorem d_R_closeAbove_41 : decode b_R_closeAbove 41 = .ok (.getfield 23, 3) := by decide +kernel
theorem d_R_closeAbove_44 : decode b_R_closeAbove 44 = .ok (.iload_n 1, 1) := by decide +kernel
theorem d_R_closeAbove_45 : decode b_R_closeAbove 45 = .ok (.iaload, 1) := by decide +kernel
theorem d_R_closeAbove_46 : decode b_R_closeAbove 46 = .ok (.ishl, 1) := by decide +kernel
theorem d_R_closeAbove_47 : decode b_R_closeAbove 47 = .ok (.ior, 1) := by decide +kernel
theorem d_R_closeAbove_48 : decode b_R_closeAbove 48 = .ok (.iastore, 1) := by decide +kernel
theorem d_R_closeAbove_49 : decode b_R_closeAbove 49 = .ok (.iconst 0, 1) := by decide +kernel
theorem d_R_closeAbove_50 : decode b_R_closeAbove 50 = .ok (.istore_n 2, 1) := by decide +kernel
theorem d_R_closeAbove_51 : decode b_R_closeAbove 51 = .ok (.iload_n 2, 1) := by decide +kernel
theorem d_R_closeAbove_52 : decode b_R_closeAbove 52 = .ok (.aload_n 0, 1) := by decide +kernel
theorem d_R_closeAbove_53 : decode b_R_closeAbove 53 = .ok (.getfield 32, 3) := by decide +kernel
theorem d_R_closeAbove_56 : decode b_R_closeAbove 56 = .ok (.iload_n 1, 1) := by decide +kernel
theorem d_R_closeAbove_57 : decode b_R_closeAbove 57 = .ok (.iaload, 1) := by decide +kernel
theorem d_R_closeAbove_58 : decode b_R_closeAbove 58 = .ok (.if_icmp .ge 46, 3) := by decide +kernel
theorem d_R_closeAbove_61 : decode b_R_closeAbove 61 = .ok (.aload_n 0, 1) := by decide +kernel
theorem d_R_closeAbove_62 : decode b_R_closeAbove 62 = .ok (.getfield 41, 3) := by decide +kernel
theorem d_R_closeAbove_65 : decode b_R_closeAbove 65 = .ok (.iload_n 1, 1) := by decide +kernel
theorem d_R_closeAbove_66 : decode b_R_closeAbove 66 = .ok (.dup2, 1) := by decide +kernel
theorem d_R_closeAbove_67 : decode b_R_closeAbove 67 = .ok (.iaload, 1) := by decide +kernel
theorem d_R_closeAbove_68 : decode b_R_closeAbove 68 = .ok (.aload_n 0, 1) := by decide +kernel
theorem d_R_closeAbove_69 : decode b_R_closeAbove 69 = .ok (.getfield 41, 3) := by decide +kernel
theorem d_R_closeAbove_72 : decode b_R_closeAbove 72 = .ok (.aload_n 0, 1) := by decide +kernel
theorem d_R_closeAbove_73 : decode b_R_closeAbove 73 = .ok (.getfield 29, 3) := by decide +kernel
theorem d_R_closeAbove_76 : decode b_R_closeAbove 76 = .ok (.iconst 4, 1) := by decide +kernel
theorem d_R_closeAbove_77 : decode b_R_closeAbove 77 = .ok (.iload_n 1, 1) := by decide +kernel
theorem d_R_closeAbove_78 : decode b_R_closeAbove 78 = .ok (.imul, 1) := by decide +kernel
theorem d_R_closeAbove_79 : decode b_R_closeAbove 79 = .ok (.iload_n 2, 1) := by decide +kernel
theorem d_R_closeAbove_80 : decode b_R_closeAbove 80 = .ok (.iadd, 1) := by decide +kernel
theorem d_R_closeAbove_81 : decode b_R_closeAbove 81 = .ok (.iaload, 1) := by decide +kernel
theorem d_R_closeAbove_82 : decode b_R_closeAbove 82 = .ok (.iaload, 1) := by decide +kernel
theorem d_R_closeAbove_83 : decode b_R_closeAbove 83 = .ok (.iconst 1, 1) := by decide +kernel
theorem d_R_closeAbove_84 : decode b_R_closeAbove 84 = .ok (.aload_n 0, 1) := by decide +kernel
theorem d_R_closeAbove_85 : decode b_R_closeAbove 85 = .ok (.getfield 29, 3) := by decide +kernel
theorem d_R_closeAbove_88 : decode b_R_closeAbove 88 = .ok (.iconst 4, 1) := by decide +kernel
theorem d_R_closeAbove_89 : decode b_R_closeAbove 89 = .ok (.iload_n 1, 1) := by decide +kernel
theorem d_R_closeAbove_90 : decode b_R_closeAbove 90 = .ok (.imul, 1) := by decide +kernel
theorem d_R_closeAbove_91 : decode b_R_closeAbove 91 = .ok (.iload_n 2, 1) := by decide +kernel
theorem d_R_closeAbove_92 : decode b_R_closeAbove 92 = .ok (.iadd, 1) := by decide +kernel
theorem d_R_closeAbove_93 : decode b_R_closeAbove 93 = .ok (.iaload, 1) := by decide +kernel
theorem d_R_closeAbove_94 : decode b_R_closeAbove 94 = .ok (.ishl, 1) := by decide +kernel
theorem d_R_closeAbove_95 : decode b_R_closeAbove 95 = .ok (.ior, 1) := by decide +kernel
theorem d_R_closeAbove_96 : decode b_R_closeAbove 96 = .ok (.ior, 1) := by decide +kernel
theorem d_R_closeAbove_97 : decode b_R_closeAbove 97 = .ok (.iastore, 1) := by decide +kernel
theorem d_R_closeAbove_98 : decode b_R_closeAbove 98 = .ok (.iinc 2 1, 3) := by decide +kernel
theorem d_R_closeAbove_101 : decode b_R_closeAbove 101 = .ok (.goto (-50), 3) := by decide +kernel
theorem d_R_closeAbove_104 : decode b_R_closeAbove 104 = .ok (.iinc 1 1, 3) := by decide +kernel
theorem d_R_closeAbove_107 : decode b_R_closeAbove 107 = .ok (.goto (-105), 3) := by decide +kernel
theorem d_R_closeAbove_110 : decode b_R_closeAbove 110 = .ok (.return_, 1) := by decide +kernel
theorem d_R_is_0 : decode b_R_is 0 = .ok (.iload_n 1, 1) := by decide +kernel
theorem d_R_is_1 : decode b_R_is 1 = .ok (.iload_n 2, 1) := by decide +kernel
theorem d_R_is_2 : decode b_R_is 2 = .ok (.if_icmp .eq 16, 3) := by decide +kernel
theorem d_R_is_5 : decode b_R_is 5 = .ok (.aload_n 0, 1) := by decide +kernel
theorem d_R_is_6 : decode b_R_is 6 = .ok (.getfield 41, 3) := by decide +kernel
theorem d_R_is_9 : decode b_R_is 9 = .ok (.iload_n 1, 1) := by decide +kernel
theorem d_R_is_10 : decode b_R_is 10 = .ok (.iaload, 1) := by decide +kernel
theorem d_R_is_11 : decode b_R_is 11 = .ok (.iload_n 2, 1) := by decide +kernel
theorem d_R_is_12 : decode b_R_is 12 = .ok (.ishr, 1) := by decide +kernel
theorem d_R_is_13 : decode b_R_is 13 = .ok (.iconst 1, 1) := by decide +kernel
theorem d_R_is_14 : decode b_R_is 14 = .ok (.iand, 1) := by decide +kernel
theorem d_R_is_15 : decode b_R_is 15 = .ok (.ifCond .eq 7, 3) := by decide +kernel
theorem d_R_is_18 : decode b_R_is 18 = .ok (.iconst 1, 1) := by decide +kernel
theorem d_R_is_19 : decode b_R_is 19 = .ok (.goto 4, 3) := by decide +kernel
theorem d_R_is_22 : decode b_R_is 22 = .ok (.iconst 0, 1) := by decide +kernel
theorem d_R_is_23 : decode b_R_is 23 = .ok (.ireturn, 1) := by decide +kernel
theorem d_R_usableType_0 : decode b_R_usableType 0 = .ok (.aload_n 0, 1) := by decide +kernel
theorem d_R_usableType_1 : decode b_R_usableType 1 = .ok (.getfield 13, 3) := by decide +kernel
theorem d_R_usableType_4 : decode b_R_usableType 4 = .ok (.iload_n 2, 1) := by decide +kernel
theorem d_R_usableType_5 : decode b_R_usableType 5 = .ok (.baload, 1) := by decide +kernel
theorem d_R_usableType_6 : decode b_R_usableType 6 = .ok (.ifCond .ne 18, 3) := by decide +kernel
theorem d_R_usableType_9 : decode b_R_usableType 9 = .ok (.aload_n 0, 1) := by decide +kernel
theorem d_R_usableType_10 : decode b_R_usableType 10 = .ok (.getfield 19, 3) := by decide +kernel
theorem d_R_usableType_13 : decode b_R_usableType 13 = .ok (.iload_n 2, 1) := by decide +kernel
theorem d_R_usableType_14 : decode b_R_usableType 14 = .ok (.iaload, 1) := by decide +kernel
theorem d_R_usableType_15 : decode b_R_usableType 15 = .ok (.aload_n 0, 1) := by decide +kernel
theorem d_R_usableType_16 : decode b_R_usableType 16 = .ok (.getfield 19, 3) := by decide +kernel
theorem d_R_usableType_19 : decode b_R_usableType 19 = .ok (.iload_n 1, 1) := by decide +kernel
theorem d_R_usableType_20 : decode b_R_usableType 20 = .ok (.iaload, 1) := by decide +kernel
theorem d_R_usableType_21 : decode b_R_usableType 21 = .ok (.if_icmp .ne 7, 3) := by decide +kernel
theorem d_R_usableType_24 : decode b_R_usableType 24 = .ok (.iconst 1, 1) := by decide +kernel
theorem d_R_usableType_25 : decode b_R_usableType 25 = .ok (.goto 4, 3) := by decide +kernel
theorem d_R_usableType_28 : decode b_R_usableType 28 = .ok (.iconst 0, 1) := by decide +kernel
theorem d_R_usableType_29 : decode b_R_usableType 29 = .ok (.ireturn, 1) := by decide +kernel
theorem d_R_usable_0 : decode b_R_usable 0 = .ok (.iload_n 3, 1) := by decide +kernel
theorem d_R_usable_1 : decode b_R_usable 1 = .ok (.iconst 3, 1) := by decide +kernel
theorem d_R_usable_2 : decode b_R_usable 2 = .ok (.iand, 1) := by decide +kernel
theorem d_R_usable_3 : decode b_R_usable 3 = .ok (.istore 4, 2) := by decide +kernel
theorem d_R_usable_5 : decode b_R_usable 5 = .ok (.iload 4, 2) := by decide +kernel
theorem d_R_usable_7 : decode b_R_usable 7 = .ok (.iconst 3, 1) := by decide +kernel
theorem d_R_usable_8 : decode b_R_usable 8 = .ok (.if_icmp .ne 5, 3) := by decide +kernel
theorem d_R_usable_11 : decode b_R_usable 11 = .ok (.iconst 1, 1) := by decide +kernel
theorem d_R_usable_12 : decode b_R_usable 12 = .ok (.ireturn, 1) := by decide +kernel
theorem d_R_usable_13 : decode b_R_usable 13 = .ok (.iload 4, 2) := by decide +kernel
theorem d_R_usable_15 : decode b_R_usable 15 = .ok (.iconst 2, 1) := by decide +kernel
theorem d_R_usable_16 : decode b_R_usable 16 = .ok (.if_icmp .ne 33, 3) := by decide +kernel
theorem d_R_usable_19 : decode b_R_usable 19 = .ok (.aload_n 0, 1) := by decide +kernel
theorem d_R_usable_20 : decode b_R_usable 20 = .ok (.getfield 19, 3) := by decide +kernel
theorem d_R_usable_23 : decode b_R_usable 23 = .ok (.iload_n 2, 1) := by decide +kernel
theorem d_R_usable_24 : decode b_R_usable 24 = .ok (.iaload, 1) := by decide +kernel
theorem d_R_usable_25 : decode b_R_usable 25 = .ok (.aload_n 0, 1) := by decide +kernel
theorem d_R_usable_26 : decode b_R_usable 26 = .ok (.getfield 19, 3) := by decide +kernel
theorem d_R_usable_29 : decode b_R_usable 29 = .ok (.iload_n 1, 1) := by decide +kernel
theorem d_R_usable_30 : decode b_R_usable 30 = .ok (.iaload, 1) := by decide +kernel
theorem d_R_usable_31 : decode b_R_usable 31 = .ok (.if_icmp .eq 12, 3) := by decide +kernel
theorem d_R_usable_34 : decode b_R_usable 34 = .ok (.aload_n 0, 1) := by decide +kernel
theorem d_R_usable_35 : decode b_R_usable 35 = .ok (.iload_n 1, 1) := by decide +kernel
theorem d_R_usable_36 : decode b_R_usable 36 = .ok (.iload_n 2, 1) := by decide +kernel
theorem d_R_usable_37 : decode b_R_usable 37 = .ok (.invokevirtual 66, 3) := by decide +kernel
theorem d_R_usable_40 : decode b_R_usable 40 = .ok (.ifCond .eq 7, 3) := by decide +kernel
theorem d_R_usable_43 : decode b_R_usable 43 = .ok (.iconst 1, 1) := by decide +kernel
theorem d_R_usable_44 : decode b_R_usable 44 = .ok (.goto 4, 3) := by decide +kernel
theorem d_R_usable_47 : decode b_R_usable 47 = .ok (.iconst 0, 1) := by decide +kernel
theorem d_R_usable_48 : decode b_R_usable 48 = .ok (.ireturn, 1) := by decide +kernel
theorem d_R_usable_49 : decode b_R_usable 49 = .ok (.iload 4, 2) := by decide +kernel
theorem d_R_usable_51 : decode b_R_usable 51 = .ok (.iconst 1, 1) := by decide +kernel
theorem d_R_usable_52 : decode b_R_usable 52 = .ok (.if_icmp .ne 26, 3) := by decide +kernel
theorem d_R_usable_55 : decode b_R_usable 55 = .ok (.aload_n 0, 1) := by decide +kernel
theorem d_R_usable_56 : decode b_R_usable 56 = .ok (.getfield 19, 3) := by decide +kernel
theorem d_R_usable_59 : decode b_R_usable 59 = .ok (.iload_n 2, 1) := by decide +kernel
theorem d_R_usable_60 : decode b_R_usable 60 = .ok (.iaload, 1) := by decide +kernel
theorem d_R_usable_61 : decode b_R_usable 61 = .ok (.aload_n 0, 1) := by decide +kernel
theorem d_R_usable_62 : decode b_R_usable 62 = .ok (.getfield 19, 3) := by decide +kernel
theorem d_R_usable_65 : decode b_R_usable 65 = .ok (.iload_n 1, 1) := by decide +kernel
theorem d_R_usable_66 : decode b_R_usable 66 = .ok (.iaload, 1) := by decide +kernel
theorem d_R_usable_67 : decode b_R_usable 67 = .ok (.if_icmp .ne 7, 3) := by decide +kernel
theorem d_R_usable_70 : decode b_R_usable 70 = .ok (.iconst 1, 1) := by decide +kernel
theorem d_R_usable_71 : decode b_R_usable 71 = .ok (.goto 27, 3) := by decide +kernel
theorem d_R_usable_74 : decode b_R_usable 74 = .ok (.iconst 0, 1) := by decide +kernel
theorem d_R_usable_75 : decode b_R_usable 75 = .ok (.goto 23, 3) := by decide +kernel
theorem d_R_usable_78 : decode b_R_usable 78 = .ok (.aload_n 0, 1) := by decide +kernel
theorem d_R_usable_79 : decode b_R_usable 79 = .ok (.getfield 26, 3) := by decide +kernel
theorem d_R_usable_82 : decode b_R_usable 82 = .ok (.iload_n 2, 1) := by decide +kernel
theorem d_R_usable_83 : decode b_R_usable 83 = .ok (.iaload, 1) := by decide +kernel
theorem d_R_usable_84 : decode b_R_usable 84 = .ok (.aload_n 0, 1) := by decide +kernel
theorem d_R_usable_85 : decode b_R_usable 85 = .ok (.getfield 26, 3) := by decide +kernel
theorem d_R_usable_88 : decode b_R_usable 88 = .ok (.iload_n 1, 1) := by decide +kernel
theorem d_R_usable_89 : decode b_R_usable 89 = .ok (.iaload, 1) := by decide +kernel
theorem d_R_usable_90 : decode b_R_usable 90 = .ok (.if_icmp .ne 7, 3) := by decide +kernel
theorem d_R_usable_93 : decode b_R_usable 93 = .ok (.iconst 1, 1) := by decide +kernel
theorem d_R_usable_94 : decode b_R_usable 94 = .ok (.goto 4, 3) := by decide +kernel
theorem d_R_usable_97 : decode b_R_usable 97 = .ok (.iconst 0, 1) := by decide +kernel
theorem d_R_usable_98 : decode b_R_usable 98 = .ok (.ireturn, 1) := by decide +kernel
theorem d_R_has_0 : decode b_R_has 0 = .ok (.aload_n 0, 1) := by decide +kernel
theorem d_R_has_1 : decode b_R_has 1 = .ok (.getfield 38, 3) := by decide +kernel
theorem d_R_has_4 : decode b_R_has 4 = .ok (.iconst 4, 1) := by decide +kernel
theorem d_R_has_5 : decode b_R_has 5 = .ok (.iload_n 1, 1) := by decide +kernel
theorem d_R_has_6 : decode b_R_has 6 = .ok (.imul, 1) := by decide +kernel
theorem d_R_has_7 : decode b_R_has 7 = .ok (.iload_n 2, 1) := by decide +kernel
theorem d_R_has_8 : decode b_R_has 8 = .ok (.iadd, 1) := by decide +kernel
theorem d_R_has_9 : decode b_R_has 9 = .ok (.iaload, 1) := by decide +kernel
theorem d_R_has_10 : decode b_R_has 10 = .ok (.ifCond .lt 7, 3) := by decide +kernel
theorem d_R_has_13 : decode b_R_has 13 = .ok (.iconst 1, 1) := by decide +kernel
theorem d_R_has_14 : decode b_R_has 14 = .ok (.goto 4, 3) := by decide +kernel
theorem d_R_has_17 : decode b_R_has 17 = .ok (.iconst 0, 1) := by decide +kernel
theorem d_R_has_18 : decode b_R_has 18 = .ok (.ireturn, 1) := by decide +kernel
theorem d_R_isStatic_0 : decode b_R_isStatic 0 = .ok (.aload_n 0, 1) := by decide +kernel
theorem d_R_isStatic_1 : decode b_R_isStatic 1 = .ok (.getfield 38, 3) := by decide +kernel
theorem d_R_isStatic_4 : decode b_R_isStatic 4 = .ok (.iconst 4, 1) := by decide +kernel
theorem d_R_isStatic_5 : decode b_R_isStatic 5 = .ok (.iload_n 1, 1) := by decide +kernel
theorem d_R_isStatic_6 : decode b_R_isStatic 6 = .ok (.imul, 1) := by decide +kernel
theorem d_R_isStatic_7 : decode b_R_isStatic 7 = .ok (.iload_n 2, 1) := by decide +kernel
theorem d_R_isStatic_8 : decode b_R_isStatic 8 = .ok (.iadd, 1) := by decide +kernel
theorem d_R_isStatic_9 : decode b_R_isStatic 9 = .ok (.iaload, 1) := by decide +kernel
theorem d_R_isStatic_10 : decode b_R_isStatic 10 = .ok (.iconst 4, 1) := by decide +kernel
theorem d_R_isStatic_11 : decode b_R_isStatic 11 = .ok (.iand, 1) := by decide +kernel
theorem d_R_isStatic_12 : decode b_R_isStatic 12 = .ok (.ifCond .eq 7, 3) := by decide +kernel
theorem d_R_isStatic_15 : decode b_R_isStatic 15 = .ok (.iconst 1, 1) := by decide +kernel
theorem d_R_isStatic_16 : decode b_R_isStatic 16 = .ok (.goto 4, 3) := by decide +kernel
theorem d_R_isStatic_19 : decode b_R_isStatic 19 = .ok (.iconst 0, 1) := by decide +kernel
theorem d_R_isStatic_20 : decode b_R_isStatic 20 = .ok (.ireturn, 1) := by decide +kernel
theorem d_R_isAbstract_0 : decode b_R_isAbstract 0 = .ok (.aload_n 0, 1) := by decide +kernel
theorem d_R_isAbstract_1 : decode b_R_isAbstract 1 = .ok (.getfield 38, 3) := by decide +kernel
theorem d_R_isAbstract_4 : decode b_R_isAbstract 4 = .ok (.iconst 4, 1) := by decide +kernel
theorem d_R_isAbstract_5 : decode b_R_isAbstract 5 = .ok (.iload_n 1, 1) := by decide +kernel
theorem d_R_isAbstract_6 : decode b_R_isAbstract 6 = .ok (.imul, 1) := by decide +kernel
theorem d_R_isAbstract_7 : decode b_R_isAbstract 7 = .ok (.iload_n 2, 1) := by decide +kernel
theorem d_R_isAbstract_8 : decode b_R_isAbstract 8 = .ok (.iadd, 1) := by decide +kernel
theorem d_R_isAbstract_9 : decode b_R_isAbstract 9 = .ok (.iaload, 1) := by decide +kernel
theorem d_R_isAbstract_10 : decode b_R_isAbstract 10 = .ok (.bipush 8, 2) := by decide +kernel
theorem d_R_isAbstract_12 : decode b_R_isAbstract 12 = .ok (.if_icmp .lt 7, 3) := by decide +kernel
theorem d_R_isAbstract_15 : decode b_R_isAbstract 15 = .ok (.iconst 1, 1) := by decide +kernel
theorem d_R_isAbstract_16 : decode b_R_isAbstract 16 = .ok (.goto 4, 3) := by decide +kernel
theorem d_R_isAbstract_19 : decode b_R_isAbstract 19 = .ok (.iconst 0, 1) := by decide +kernel
theorem d_R_isAbstract_20 : decode b_R_isAbstract 20 = .ok (.ireturn, 1) := by decide +kernel
theorem d_R_isPrivate_0 : decode b_R_isPrivate 0 = .ok (.aload_n 0, 1) := by decide +kernel
theorem d_R_isPrivate_1 : decode b_R_isPrivate 1 = .ok (.getfield 38, 3) := by decide +kernel
theorem d_R_isPrivate_4 : decode b_R_isPrivate 4 = .ok (.iconst 4, 1) := by decide +kernel
theorem d_R_isPrivate_5 : decode b_R_isPrivate 5 = .ok (.iload_n 1, 1) := by decide +kernel
theorem d_R_isPrivate_6 : decode b_R_isPrivate 6 = .ok (.imul, 1) := by decide +kernel
theorem d_R_isPrivate_7 : decode b_R_isPrivate 7 = .ok (.iload_n 2, 1) := by decide +kernel
theorem d_R_isPrivate_8 : decode b_R_isPrivate 8 = .ok (.iadd, 1) := by decide +kernel
theorem d_R_isPrivate_9 : decode b_R_isPrivate 9 = .ok (.iaload, 1) := by decide +kernel
theorem d_R_isPrivate_10 : decode b_R_isPrivate 10 = .ok (.iconst 3, 1) := by decide +kernel
theorem d_R_isPrivate_11 : decode b_R_isPrivate 11 = .ok (.iand, 1) := by decide +kernel
theorem d_R_isPrivate_12 : decode b_R_isPrivate 12 = .ok (.ifCond .ne 7, 3) := by decide +kernel
theorem d_R_isPrivate_15 : decode b_R_isPrivate 15 = .ok (.iconst 1, 1) := by decide +kernel
theorem d_R_isPrivate_16 : decode b_R_isPrivate 16 = .ok (.goto 4, 3) := by decide +kernel
theorem d_R_isPrivate_19 : decode b_R_isPrivate 19 = .ok (.iconst 0, 1) := by decide +kernel
theorem d_R_isPrivate_20 : decode b_R_isPrivate 20 = .ok (.ireturn, 1) := by decide +kernel
theorem d_R_candidates_0 : decode b_R_candidates 0 = .ok (.iconst 0, 1) := by decide +kernel
theorem d_R_candidates_1 : decode b_R_candidates 1 = .ok (.istore_n 3, 1) := by decide +kernel
theorem d_R_candidates_2 : decode b_R_candidates 2 = .ok (.iconst 1, 1) := by decide +kernel
theorem d_R_candidates_3 : decode b_R_candidates 3 = .ok (.istore 4, 2) := by decide +kernel
theorem d_R_candidates_5 : decode b_R_candidates 5 = .ok (.iload 4, 2) := by decide +kernel
theorem d_R_candidates_7 : decode b_R_candidates 7 = .ok (.aload_n 0, 1) := by decide +kernel
theorem d_R_candidates_8 : decode b_R_candidates 8 = .ok (.getfield 50, 3) := by decide +kernel
theorem d_R_candidates_11 : decode b_R_candidates 11 = .ok (.if_icmp .gt 70, 3) := by decide +kernel
theorem d_R_candidates_14 : decode b_R_candidates 14 = .ok (.aload_n 0, 1) := by decide +kernel
theorem d_R_candidates_15 : decode b_R_candidates 15 = .ok (.getfield 41, 3) := by decide +kernel
theorem d_R_candidates_18 : decode b_R_candidates 18 = .ok (.iload_n 1, 1) := by decide +kernel
theorem d_R_candidates_19 : decode b_R_candidates 19 = .ok (.iaload, 1) := by decide +kernel
theorem d_R_candidates_20 : decode b_R_candidates 20 = .ok (.iload 4, 2) := by decide +kernel
theorem d_R_candidates_22 : decode b_R_candidates 22 = .ok (.ishr, 1) := by decide +kernel
theorem d_R_candidates_23 : decode b_R_candidates 23 = .ok (.iconst 1, 1) := by decide +kernel
theorem d_R_candidates_24 : decode b_R_candidates 24 = .ok (.iand, 1) := by decide +kernel
theorem d_R_candidates_25 : decode b_R_candidates 25 = .ok (.ifCond .eq 50, 3) := by decide +kernel
theorem d_R_candidates_28 : decode b_R_candidates 28 = .ok (.aload_n 0, 1) := by decide +kernel
theorem d_R_candidates_29 : decode b_R_candidates 29 = .ok (.getfield 7, 3) := by decide +kernel
theorem d_R_candidates_32 : decode b_R_candidates 32 = .ok (.iload 4, 2) := by decide +kernel
theorem d_R_candidates_34 : decode b_R_candidates 34 = .ok (.baload, 1) := by decide +kernel
theorem d_R_candidates_35 : decode b_R_candidates 35 = .ok (.ifCond .eq 40, 3) := by decide +kernel
theorem d_R_candidates_38 : decode b_R_candidates 38 = .ok (.aload_n 0, 1) := by decide +kernel
theorem d_R_candidates_39 : decode b_R_candidates 39 = .ok (.iload 4, 2) := by decide +kernel
theorem d_R_candidates_41 : decode b_R_candidates 41 = .ok (.iload_n 2, 1) := by decide +kernel
theorem d_R_candidates_42 : decode b_R_candidates 42 = .ok (.invokevirtual 70, 3) := by decide +kernel
theorem d_R_candidates_45 : decode b_R_candidates 45 = .ok (.ifCond .eq 30, 3) := by decide +kernel
theorem d_R_candidates_48 : decode b_R_candidates 48 = .ok (.aload_n 0, 1) := by decide +kernel
theorem d_R_candidates_49 : decode b_R_candidates 49 = .ok (.iload 4, 2) := by decide +kernel
theorem d_R_candidates_51 : decode b_R_candidates 51 = .ok (.iload_n 2, 1) := by decide +kernel
theorem d_R_candidates_52 : decode b_R_candidates 52 = .ok (.invokevirtual 73, 3) := by decide +kernel
theorem d_R_candidates_55 : decode b_R_candidates 55 = .ok (.ifCond .ne 20, 3) := by decide +kernel
theorem d_R_candidates_58 : decode b_R_candidates 58 = .ok (.aload_n 0, 1) := by decide +kernel
theorem d_R_candidates_59 : decode b_R_candidates 59 = .ok (.iload 4, 2) := by decide +kernel
theorem d_R_candidates_61 : decode b_R_candidates 61 = .ok (.iload_n 2, 1) := by decide +kernel
theorem d_R_candidates_62 : decode b_R_candidates 62 = .ok (.invokevirtual 76, 3) := by decide +kernel
theorem d_R_candidates_65 : decode b_R_candidates 65 = .ok (.ifCond .ne 10, 3) := by decide +kernel
theorem d_R_candidates_68 : decode b_R_candidates 68 = .ok (.iload_n 3, 1) := by decide +kernel
theorem d_R_candidates_69 : decode b_R_candidates 69 = .ok (.iconst 1, 1) := by decide +kernel
theorem d_R_candidates_70 : decode b_R_candidates 70 = .ok (.iload 4, 2) := by decide +kernel
theorem d_R_candidates_72 : decode b_R_candidates 72 = .ok (.ishl, 1) := by decide +kernel
theorem d_R_candidates_73 : decode b_R_candidates 73 = .ok (.ior, 1) := by decide +kernel
theorem d_R_candidates_74 : decode b_R_candidates 74 = .ok (.istore_n 3, 1) := by decide +kernel
theorem d_R_candidates_75 : decode b_R_candidates 75 = .ok (.iinc 4 1, 3) := by decide +kernel
theorem d_R_candidates_78 : decode b_R_candidates 78 = .ok (.goto (-73), 3) := by decide +kernel
theorem d_R_candidates_81 : decode b_R_candidates 81 = .ok (.iload_n 3, 1) := by decide +kernel
theorem d_R_candidates_82 : decode b_R_candidates 82 = .ok (.ireturn, 1) := by decide +kernel
theorem d_R_maximals_0 : decode b_R_maximals 0 = .ok (.aload_n 0, 1) := by decide +kernel
theorem d_R_maximals_1 : decode b_R_maximals 1 = .ok (.iload_n 1, 1) := by decide +kernel
theorem d_R_maximals_2 : decode b_R_maximals 2 = .ok (.iload_n 2, 1) := by decide +kernel
theorem d_R_maximals_3 : decode b_R_maximals 3 = .ok (.invokevirtual 79, 3) := by decide +kernel
theorem d_R_maximals_6 : decode b_R_maximals 6 = .ok (.istore_n 3, 1) := by decide +kernel
theorem d_R_maximals_7 : decode b_R_maximals 7 = .ok (.iload_n 3, 1) := by decide +kernel
theorem d_R_maximals_8 : decode b_R_maximals 8 = .ok (.istore 4, 2) := by decide +kernel
theorem d_R_maximals_10 : decode b_R_maximals 10 = .ok (.iconst 1, 1) := by decide +kernel
theorem d_R_maximals_11 : decode b_R_maximals 11 = .ok (.istore 5, 2) := by decide +kernel
theorem d_R_maximals_13 : decode b_R_maximals 13 = .ok (.iload 5, 2) := by decide +kernel
theorem d_R_maximals_15 : decode b_R_maximals 15 = .ok (.aload_n 0, 1) := by decide +kernel
theorem d_R_maximals_16 : decode b_R_maximals 16 = .ok (.getfield 50, 3) := by decide +kernel
theorem d_R_maximals_19 : decode b_R_maximals 19 = .ok (.if_icmp .gt 65, 3) := by decide +kernel
theorem d_R_maximals_22 : decode b_R_maximals 22 = .ok (.iconst 1, 1) := by decide +kernel
theorem d_R_maximals_23 : decode b_R_maximals 23 = .ok (.istore 6, 2) := by decide +kernel
theorem d_R_maximals_25 : decode b_R_maximals 25 = .ok (.iload 6, 2) := by decide +kernel
theorem d_R_maximals_27 : decode b_R_maximals 27 = .ok (.aload_n 0, 1) := by decide +kernel
theorem d_R_maximals_28 : decode b_R_maximals 28 = .ok (.getfield 50, 3) := by decide +kernel
theorem d_R_maximals_31 : decode b_R_maximals 31 = .ok (.if_icmp .gt 47, 3) := by decide +kernel
theorem d_R_maximals_34 : decode b_R_maximals 34 = .ok (.iload_n 3, 1) := by decide +kernel
theorem d_R_maximals_35 : decode b_R_maximals 35 = .ok (.iload 6, 2) := by decide +kernel
theorem d_R_maximals_37 : decode b_R_maximals 37 = .ok (.ishr, 1) := by decide +kernel
theorem d_R_maximals_38 : decode b_R_maximals 38 = .ok (.iconst 1, 1) := by decide +kernel
theorem d_R_maximals_39 : decode b_R_maximals 39 = .ok (.iand, 1) := by decide +kernel
theorem d_R_maximals_40 : decode b_R_maximals 40 = .ok (.ifCond .eq 32, 3) := by decide +kernel
theorem d_R_maximals_43 : decode b_R_maximals 43 = .ok (.iload 6, 2) := by decide +kernel
theorem d_R_maximals_45 : decode b_R_maximals 45 = .ok (.iload 5, 2) := by decide +kernel
theorem d_R_maximals_47 : decode b_R_maximals 47 = .ok (.if_icmp .eq 25, 3) := by decide +kernel
theorem d_R_maximals_50 : decode b_R_maximals 50 = .ok (.aload_n 0, 1) := by decide +kernel
theorem d_R_maximals_51 : decode b_R_maximals 51 = .ok (.iload 6, 2) := by decide +kernel
theorem d_R_maximals_53 : decode b_R_maximals 53 = .ok (.iload 5, 2) := by decide +kernel
theorem d_R_maximals_55 : decode b_R_maximals 55 = .ok (.invokevirtual 66, 3) := by decide +kernel
theorem d_R_maximals_58 : decode b_R_maximals 58 = .ok (.ifCond .eq 14, 3) := by decide +kernel
theorem d_R_maximals_61 : decode b_R_maximals 61 = .ok (.iload 4, 2) := by decide +kernel
theorem d_R_maximals_63 : decode b_R_maximals 63 = .ok (.iconst 1, 1) := by decide +kernel
theorem d_R_maximals_64 : decode b_R_maximals 64 = .ok (.iload 5, 2) := by decide +kernel
theorem d_R_maximals_66 : decode b_R_maximals 66 = .ok (.ishl, 1) := by decide +kernel
theorem d_R_maximals_67 : decode b_R_maximals 67 = .ok (.iconst (-1), 1) := by decide +kernel
theorem d_R_maximals_68 : decode b_R_maximals 68 = .ok (.ixor, 1) := by decide +kernel
theorem d_R_maximals_69 : decode b_R_maximals 69 = .ok (.iand, 1) := by decide +kernel
theorem d_R_maximals_70 : decode b_R_maximals 70 = .ok (.istore 4, 2) := by decide +kernel
theorem d_R_maximals_72 : decode b_R_maximals 72 = .ok (.iinc 6 1, 3) := by decide +kernel
theorem d_R_maximals_75 : decode b_R_maximals 75 = .ok (.goto (-50), 3) := by decide +kernel
theorem d_R_maximals_78 : decode b_R_maximals 78 = .ok (.iinc 5 1, 3) := by decide +kernel
theorem d_R_maximals_81 : decode b_R_maximals 81 = .ok (.goto (-68), 3) := by decide +kernel
theorem d_R_maximals_84 : decode b_R_maximals 84 = .ok (.iload 4, 2) := by decide +kernel
theorem d_R_maximals_86 : decode b_R_maximals 86 = .ok (.ireturn, 1) := by decide +kernel
theorem d_R_only_0 : decode b_R_only 0 = .ok (.iconst 0, 1) := by decide +kernel
theorem d_R_only_1 : decode b_R_only 1 = .ok (.istore_n 3, 1) := by decide +kernel
theorem d_R_only_2 : decode b_R_only 2 = .ok (.iconst 0, 1) := by decide +kernel
theorem d_R_only_3 : decode b_R_only 3 = .ok (.istore 4, 2) := by decide +kernel
theorem d_R_only_5 : decode b_R_only 5 = .ok (.iconst 1, 1) := by decide +kernel
theorem d_R_only_6 : decode b_R_only 6 = .ok (.istore 5, 2) := by decide +kernel
theorem d_R_only_8 : decode b_R_only 8 = .ok (.iload 5, 2) := by decide +kernel
theorem d_R_only_10 : decode b_R_only 10 = .ok (.aload_n 0, 1) := by decide +kernel
theorem d_R_only_11 : decode b_R_only 11 = .ok (.getfield 50, 3) := by decide +kernel
theorem d_R_only_14 : decode b_R_only 14 = .ok (.if_icmp .gt 38, 3) := by decide +kernel
theorem d_R_only_17 : decode b_R_only 17 = .ok (.iload_n 1, 1) := by decide +kernel
theorem d_R_only_18 : decode b_R_only 18 = .ok (.iload 5, 2) := by decide +kernel
theorem d_R_only_20 : decode b_R_only 20 = .ok (.ishr, 1) := by decide +kernel
theorem d_R_only_21 : decode b_R_only 21 = .ok (.iconst 1, 1) := by decide +kernel
theorem d_R_only_22 : decode b_R_only 22 = .ok (.iand, 1) := by decide +kernel
theorem d_R_only_23 : decode b_R_only 23 = .ok (.ifCond .eq 23, 3) := by decide +kernel
theorem d_R_only_26 : decode b_R_only 26 = .ok (.aload_n 0, 1) := by decide +kernel
theorem d_R_only_27 : decode b_R_only 27 = .ok (.iload 5, 2) := by decide +kernel
theorem d_R_only_29 : decode b_R_only 29 = .ok (.iload_n 2, 1) := by decide +kernel
theorem d_R_only_30 : decode b_R_only 30 = .ok (.invokevirtual 83, 3) := by decide +kernel
theorem d_R_only_33 : decode b_R_only 33 = .ok (.ifCond .eq 6, 3) := by decide +kernel
theorem d_R_only_36 : decode b_R_only 36 = .ok (.goto 10, 3) := by decide +kernel
theorem d_R_only_39 : decode b_R_only 39 = .ok (.iinc 3 1, 3) := by decide +kernel
theorem d_R_only_42 : decode b_R_only 42 = .ok (.iload 5, 2) := by decide +kernel
theorem d_R_only_44 : decode b_R_only 44 = .ok (.istore 4, 2) := by decide +kernel
theorem d_R_only_46 : decode b_R_only 46 = .ok (.iinc 5 1, 3) := by decide +kernel
theorem d_R_only_49 : decode b_R_only 49 = .ok (.goto (-41), 3) := by decide +kernel
theorem d_R_only_52 : decode b_R_only 52 = .ok (.iload_n 3, 1) := by decide +kernel
theorem d_R_only_53 : decode b_R_only 53 = .ok (.iconst 1, 1) := by decide +kernel
theorem d_R_only_54 : decode b_R_only 54 = .ok (.if_icmp .ne 8, 3) := by decide +kernel
theorem d_R_only_57 : decode b_R_only 57 = .ok (.iload 4, 2) := by decide +kernel
theorem d_R_only_59 : decode b_R_only 59 = .ok (.goto 5, 3) := by decide +kernel
theorem d_R_only_62 : decode b_R_only 62 = .ok (.iload_n 3, 1) := by decide +kernel
theorem d_R_only_63 : decode b_R_only 63 = .ok (.ineg, 1) := by decide +kernel
theorem d_R_only_64 : decode b_R_only 64 = .ok (.ireturn, 1) := by decide +kernel
theorem d_R_findField_0 : decode b_R_findField 0 = .ok (.iconst 0, 1) := by decide +kernel
theorem d_R_findField_1 : decode b_R_findField 1 = .ok (.istore_n 3, 1) := by decide +kernel
theorem d_R_findField_2 : decode b_R_findField 2 = .ok (.iconst 1, 1) := by decide +kernel
theorem d_R_findField_3 : decode b_R_findField 3 = .ok (.istore 4, 2) := by decide +kernel
theorem d_R_findField_5 : decode b_R_findField 5 = .ok (.aload_n 0, 1) := by decide +kernel
theorem d_R_findField_6 : decode b_R_findField 6 = .ok (.getfield 47, 3) := by decide +kernel
theorem d_R_findField_9 : decode b_R_findField 9 = .ok (.iconst 0, 1) := by decide +kernel
theorem d_R_findField_10 : decode b_R_findField 10 = .ok (.iload_n 1, 1) := by decide +kernel
theorem d_R_findField_11 : decode b_R_findField 11 = .ok (.iastore, 1) := by decide +kernel
theorem d_R_findField_12 : decode b_R_findField 12 = .ok (.iload 4, 2) := by decide +kernel
theorem d_R_findField_14 : decode b_R_findField 14 = .ok (.ifCond .le 125, 3) := by decide +kernel
theorem d_R_findField_17 : decode b_R_findField 17 = .ok (.iinc 4 (-1), 3) := by decide +kernel
theorem d_R_findField_20 : decode b_R_findField 20 = .ok (.aload_n 0, 1) := by decide +kernel
theorem d_R_findField_21 : decode b_R_findField 21 = .ok (.getfield 47, 3) := by decide +kernel
theorem d_R_findField_24 : decode b_R_findField 24 = .ok (.iload 4, 2) := by decide +kernel
