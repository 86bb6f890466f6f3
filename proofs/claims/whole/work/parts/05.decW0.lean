theorem d_W_init_0 : decode b_W_init 0 = .ok (.aload_n 0, 1) := by decide +kernel
theorem d_W_init_1 : decode b_W_init 1 = .ok (.invokespecial 3, 3) := by decide +kernel
theorem d_W_init_4 : decode b_W_init 4 = .ok (.aload_n 0, 1) := by decide +kernel
theorem d_W_init_5 : decode b_W_init 5 = .ok (.bipush 13, 2) := by decide +kernel
theorem d_W_init_7 : decode b_W_init 7 = .ok (.newarray .int, 2) := by decide +kernel
theorem d_W_init_9 : decode b_W_init 9 = .ok (.putfield 9, 3) := by decide +kernel
theorem d_W_init_12 : decode b_W_init 12 = .ok (.aload_n 0, 1) := by decide +kernel
theorem d_W_init_13 : decode b_W_init 13 = .ok (.bipush 13, 2) := by decide +kernel
theorem d_W_init_15 : decode b_W_init 15 = .ok (.newarray .int, 2) := by decide +kernel
theorem d_W_init_17 : decode b_W_init 17 = .ok (.putfield 15, 3) := by decide +kernel
theorem d_W_init_20 : decode b_W_init 20 = .ok (.aload_n 0, 1) := by decide +kernel
theorem d_W_init_21 : decode b_W_init 21 = .ok (.bipush 13, 2) := by decide +kernel
theorem d_W_init_23 : decode b_W_init 23 = .ok (.newarray .int, 2) := by decide +kernel
theorem d_W_init_25 : decode b_W_init 25 = .ok (.putfield 18, 3) := by decide +kernel
theorem d_W_init_28 : decode b_W_init 28 = .ok (.aload_n 0, 1) := by decide +kernel
theorem d_W_init_29 : decode b_W_init 29 = .ok (.bipush 13, 2) := by decide +kernel
theorem d_W_init_31 : decode b_W_init 31 = .ok (.newarray .int, 2) := by decide +kernel
theorem d_W_init_33 : decode b_W_init 33 = .ok (.putfield 21, 3) := by decide +kernel
theorem d_W_init_36 : decode b_W_init 36 = .ok (.aload_n 0, 1) := by decide +kernel
theorem d_W_init_37 : decode b_W_init 37 = .ok (.bipush 52, 2) := by decide +kernel
theorem d_W_init_39 : decode b_W_init 39 = .ok (.newarray .int, 2) := by decide +kernel
theorem d_W_init_41 : decode b_W_init 41 = .ok (.putfield 24, 3) := by decide +kernel
theorem d_W_init_44 : decode b_W_init 44 = .ok (.aload_n 0, 1) := by decide +kernel
theorem d_W_init_45 : decode b_W_init 45 = .ok (.bipush 13, 2) := by decide +kernel
theorem d_W_init_47 : decode b_W_init 47 = .ok (.newarray .int, 2) := by decide +kernel
theorem d_W_init_49 : decode b_W_init 49 = .ok (.putfield 27, 3) := by decide +kernel
theorem d_W_init_52 : decode b_W_init 52 = .ok (.aload_n 0, 1) := by decide +kernel
theorem d_W_init_53 : decode b_W_init 53 = .ok (.iconst 0, 1) := by decide +kernel
theorem d_W_init_54 : decode b_W_init 54 = .ok (.putfield 30, 3) := by decide +kernel
theorem d_W_init_57 : decode b_W_init 57 = .ok (.aload_n 0, 1) := by decide +kernel
theorem d_W_init_58 : decode b_W_init 58 = .ok (.iconst 0, 1) := by decide +kernel
theorem d_W_init_59 : decode b_W_init 59 = .ok (.putfield 34, 3) := by decide +kernel
theorem d_W_init_62 : decode b_W_init 62 = .ok (.aload_n 0, 1) := by decide +kernel
theorem d_W_init_63 : decode b_W_init 63 = .ok (.iconst 0, 1) := by decide +kernel
theorem d_W_init_64 : decode b_W_init 64 = .ok (.putfield 37, 3) := by decide +kernel
theorem d_W_init_67 : decode b_W_init 67 = .ok (.aload_n 0, 1) := by decide +kernel
theorem d_W_init_68 : decode b_W_init 68 = .ok (.iconst 0, 1) := by decide +kernel
theorem d_W_init_69 : decode b_W_init 69 = .ok (.putfield 40, 3) := by decide +kernel
theorem d_W_init_72 : decode b_W_init 72 = .ok (.return_, 1) := by decide +kernel
theorem d_W_has_0 : decode b_W_has 0 = .ok (.iload_n 1, 1) := by decide +kernel
theorem d_W_has_1 : decode b_W_has 1 = .ok (.iconst 1, 1) := by decide +kernel
theorem d_W_has_2 : decode b_W_has 2 = .ok (.if_icmp .lt 15, 3) := by decide +kernel
theorem d_W_has_5 : decode b_W_has 5 = .ok (.iload_n 1, 1) := by decide +kernel
theorem d_W_has_6 : decode b_W_has 6 = .ok (.aload_n 0, 1) := by decide +kernel
theorem d_W_has_7 : decode b_W_has 7 = .ok (.getfield 40, 3) := by decide +kernel
theorem d_W_has_10 : decode b_W_has 10 = .ok (.if_icmp .gt 7, 3) := by decide +kernel
theorem d_W_has_13 : decode b_W_has 13 = .ok (.iconst 1, 1) := by decide +kernel
theorem d_W_has_14 : decode b_W_has 14 = .ok (.goto 4, 3) := by decide +kernel
theorem d_W_has_17 : decode b_W_has 17 = .ok (.iconst 0, 1) := by decide +kernel
theorem d_W_has_18 : decode b_W_has 18 = .ok (.ireturn, 1) := by decide +kernel
theorem d_W_isFull_0 : decode b_W_isFull 0 = .ok (.aload_n 0, 1) := by decide +kernel
theorem d_W_isFull_1 : decode b_W_isFull 1 = .ok (.getfield 40, 3) := by decide +kernel
theorem d_W_isFull_4 : decode b_W_isFull 4 = .ok (.bipush 12, 2) := by decide +kernel
theorem d_W_isFull_6 : decode b_W_isFull 6 = .ok (.if_icmp .lt 7, 3) := by decide +kernel
theorem d_W_isFull_9 : decode b_W_isFull 9 = .ok (.iconst 1, 1) := by decide +kernel
theorem d_W_isFull_10 : decode b_W_isFull 10 = .ok (.goto 4, 3) := by decide +kernel
theorem d_W_isFull_13 : decode b_W_isFull 13 = .ok (.iconst 0, 1) := by decide +kernel
theorem d_W_isFull_14 : decode b_W_isFull 14 = .ok (.ireturn, 1) := by decide +kernel
theorem d_W_isInterface_0 : decode b_W_isInterface 0 = .ok (.aload_n 0, 1) := by decide +kernel
theorem d_W_isInterface_1 : decode b_W_isInterface 1 = .ok (.iload_n 1, 1) := by decide +kernel
theorem d_W_isInterface_2 : decode b_W_isInterface 2 = .ok (.invokevirtual 43, 3) := by decide +kernel
theorem d_W_isInterface_5 : decode b_W_isInterface 5 = .ok (.ifCond .eq 18, 3) := by decide +kernel
theorem d_W_isInterface_8 : decode b_W_isInterface 8 = .ok (.aload_n 0, 1) := by decide +kernel
theorem d_W_isInterface_9 : decode b_W_isInterface 9 = .ok (.getfield 37, 3) := by decide +kernel
theorem d_W_isInterface_12 : decode b_W_isInterface 12 = .ok (.iload_n 1, 1) := by decide +kernel
theorem d_W_isInterface_13 : decode b_W_isInterface 13 = .ok (.invokestatic 47, 3) := by decide +kernel
theorem d_W_isInterface_16 : decode b_W_isInterface 16 = .ok (.ifCond .eq 7, 3) := by decide +kernel
theorem d_W_isInterface_19 : decode b_W_isInterface 19 = .ok (.iconst 1, 1) := by decide +kernel
theorem d_W_isInterface_20 : decode b_W_isInterface 20 = .ok (.goto 4, 3) := by decide +kernel
theorem d_W_isInterface_23 : decode b_W_isInterface 23 = .ok (.iconst 0, 1) := by decide +kernel
theorem d_W_isInterface_24 : decode b_W_isInterface 24 = .ok (.ireturn, 1) := by decide +kernel
theorem d_W_isClass_0 : decode b_W_isClass 0 = .ok (.aload_n 0, 1) := by decide +kernel
theorem d_W_isClass_1 : decode b_W_isClass 1 = .ok (.iload_n 1, 1) := by decide +kernel
theorem d_W_isClass_2 : decode b_W_isClass 2 = .ok (.invokevirtual 43, 3) := by decide +kernel
theorem d_W_isClass_5 : decode b_W_isClass 5 = .ok (.ifCond .eq 18, 3) := by decide +kernel
theorem d_W_isClass_8 : decode b_W_isClass 8 = .ok (.aload_n 0, 1) := by decide +kernel
theorem d_W_isClass_9 : decode b_W_isClass 9 = .ok (.getfield 37, 3) := by decide +kernel
theorem d_W_isClass_12 : decode b_W_isClass 12 = .ok (.iload_n 1, 1) := by decide +kernel
theorem d_W_isClass_13 : decode b_W_isClass 13 = .ok (.invokestatic 47, 3) := by decide +kernel
theorem d_W_isClass_16 : decode b_W_isClass 16 = .ok (.ifCond .ne 7, 3) := by decide +kernel
theorem d_W_isClass_19 : decode b_W_isClass 19 = .ok (.iconst 1, 1) := by decide +kernel
theorem d_W_isClass_20 : decode b_W_isClass 20 = .ok (.goto 4, 3) := by decide +kernel
theorem d_W_isClass_23 : decode b_W_isClass 23 = .ok (.iconst 0, 1) := by decide +kernel
theorem d_W_isClass_24 : decode b_W_isClass 24 = .ok (.ireturn, 1) := by decide +kernel
theorem d_W_mayBeExtended_0 : decode b_W_mayBeExtended 0 = .ok (.aload_n 0, 1) := by decide +kernel
theorem d_W_mayBeExtended_1 : decode b_W_mayBeExtended 1 = .ok (.iload_n 1, 1) := by decide +kernel
theorem d_W_mayBeExtended_2 : decode b_W_mayBeExtended 2 = .ok (.invokevirtual 51, 3) := by decide +kernel
theorem d_W_mayBeExtended_5 : decode b_W_mayBeExtended 5 = .ok (.ifCond .eq 18, 3) := by decide +kernel
theorem d_W_mayBeExtended_8 : decode b_W_mayBeExtended 8 = .ok (.aload_n 0, 1) := by decide +kernel
theorem d_W_mayBeExtended_9 : decode b_W_mayBeExtended 9 = .ok (.getfield 34, 3) := by decide +kernel
theorem d_W_mayBeExtended_12 : decode b_W_mayBeExtended 12 = .ok (.iload_n 1, 1) := by decide +kernel
theorem d_W_mayBeExtended_13 : decode b_W_mayBeExtended 13 = .ok (.invokestatic 47, 3) := by decide +kernel
theorem d_W_mayBeExtended_16 : decode b_W_mayBeExtended 16 = .ok (.ifCond .ne 7, 3) := by decide +kernel
theorem d_W_mayBeExtended_19 : decode b_W_mayBeExtended 19 = .ok (.iconst 1, 1) := by decide +kernel
theorem d_W_mayBeExtended_20 : decode b_W_mayBeExtended 20 = .ok (.goto 4, 3) := by decide +kernel
theorem d_W_mayBeExtended_23 : decode b_W_mayBeExtended 23 = .ok (.iconst 0, 1) := by decide +kernel
theorem d_W_mayBeExtended_24 : decode b_W_mayBeExtended 24 = .ok (.ireturn, 1) := by decide +kernel
theorem d_W_addClass_0 : decode b_W_addClass 0 = .ok (.aload_n 0, 1) := by decide +kernel
theorem d_W_addClass_1 : decode b_W_addClass 1 = .ok (.iload_n 1, 1) := by decide +kernel
theorem d_W_addClass_2 : decode b_W_addClass 2 = .ok (.iload_n 2, 1) := by decide +kernel
theorem d_W_addClass_3 : decode b_W_addClass 3 = .ok (.iload_n 3, 1) := by decide +kernel
theorem d_W_addClass_4 : decode b_W_addClass 4 = .ok (.invokevirtual 54, 3) := by decide +kernel
theorem d_W_addClass_7 : decode b_W_addClass 7 = .ok (.istore 5, 2) := by decide +kernel
theorem d_W_addClass_9 : decode b_W_addClass 9 = .ok (.iload 4, 2) := by decide +kernel
theorem d_W_addClass_11 : decode b_W_addClass 11 = .ok (.ifCond .eq 16, 3) := by decide +kernel
theorem d_W_addClass_14 : decode b_W_addClass 14 = .ok (.aload_n 0, 1) := by decide +kernel
theorem d_W_addClass_15 : decode b_W_addClass 15 = .ok (.dup, 1) := by decide +kernel
theorem d_W_addClass_16 : decode b_W_addClass 16 = .ok (.getfield 34, 3) := by decide +kernel
theorem d_W_addClass_19 : decode b_W_addClass 19 = .ok (.iconst 1, 1) := by decide +kernel
theorem d_W_addClass_20 : decode b_W_addClass 20 = .ok (.iload 5, 2) := by decide +kernel
theorem d_W_addClass_22 : decode b_W_addClass 22 = .ok (.ishl, 1) := by decide +kernel
theorem d_W_addClass_23 : decode b_W_addClass 23 = .ok (.ior, 1) := by decide +kernel
theorem d_W_addClass_24 : decode b_W_addClass 24 = .ok (.putfield 34, 3) := by decide +kernel
theorem d_W_addClass_27 : decode b_W_addClass 27 = .ok (.iload 5, 2) := by decide +kernel
theorem d_W_addClass_29 : decode b_W_addClass 29 = .ok (.ireturn, 1) := by decide +kernel
theorem d_W_addInterface_0 : decode b_W_addInterface 0 = .ok (.aload_n 0, 1) := by decide +kernel
theorem d_W_addInterface_1 : decode b_W_addInterface 1 = .ok (.iconst 0, 1) := by decide +kernel
theorem d_W_addInterface_2 : decode b_W_addInterface 2 = .ok (.iload_n 1, 1) := by decide +kernel
theorem d_W_addInterface_3 : decode b_W_addInterface 3 = .ok (.iload_n 2, 1) := by decide +kernel
theorem d_W_addInterface_4 : decode b_W_addInterface 4 = .ok (.invokevirtual 54, 3) := by decide +kernel
theorem d_W_addInterface_7 : decode b_W_addInterface 7 = .ok (.istore_n 3, 1) := by decide +kernel
theorem d_W_addInterface_8 : decode b_W_addInterface 8 = .ok (.aload_n 0, 1) := by decide +kernel
theorem d_W_addInterface_9 : decode b_W_addInterface 9 = .ok (.dup, 1) := by decide +kernel
theorem d_W_addInterface_10 : decode b_W_addInterface 10 = .ok (.getfield 37, 3) := by decide +kernel
theorem d_W_addInterface_13 : decode b_W_addInterface 13 = .ok (.iconst 1, 1) := by decide +kernel
theorem d_W_addInterface_14 : decode b_W_addInterface 14 = .ok (.iload_n 3, 1) := by decide +kernel
theorem d_W_addInterface_15 : decode b_W_addInterface 15 = .ok (.ishl, 1) := by decide +kernel
theorem d_W_addInterface_16 : decode b_W_addInterface 16 = .ok (.ior, 1) := by decide +kernel
theorem d_W_addInterface_17 : decode b_W_addInterface 17 = .ok (.putfield 37, 3) := by decide +kernel
theorem d_W_addInterface_20 : decode b_W_addInterface 20 = .ok (.iload_n 3, 1) := by decide +kernel
theorem d_W_addInterface_21 : decode b_W_addInterface 21 = .ok (.ireturn, 1) := by decide +kernel
theorem d_W_addType_0 : decode b_W_addType 0 = .ok (.aload_n 0, 1) := by decide +kernel
theorem d_W_addType_1 : decode b_W_addType 1 = .ok (.dup, 1) := by decide +kernel
theorem d_W_addType_2 : decode b_W_addType 2 = .ok (.getfield 40, 3) := by decide +kernel
theorem d_W_addType_5 : decode b_W_addType 5 = .ok (.iconst 1, 1) := by decide +kernel
theorem d_W_addType_6 : decode b_W_addType 6 = .ok (.iadd, 1) := by decide +kernel
theorem d_W_addType_7 : decode b_W_addType 7 = .ok (.putfield 40, 3) := by decide +kernel
theorem d_W_addType_10 : decode b_W_addType 10 = .ok (.aload_n 0, 1) := by decide +kernel
theorem d_W_addType_11 : decode b_W_addType 11 = .ok (.getfield 9, 3) := by decide +kernel
theorem d_W_addType_14 : decode b_W_addType 14 = .ok (.aload_n 0, 1) := by decide +kernel
theorem d_W_addType_15 : decode b_W_addType 15 = .ok (.getfield 40, 3) := by decide +kernel
theorem d_W_addType_18 : decode b_W_addType 18 = .ok (.iload_n 1, 1) := by decide +kernel
theorem d_W_addType_19 : decode b_W_addType 19 = .ok (.iastore, 1) := by decide +kernel
theorem d_W_addType_20 : decode b_W_addType 20 = .ok (.aload_n 0, 1) := by decide +kernel
theorem d_W_addType_21 : decode b_W_addType 21 = .ok (.getfield 15, 3) := by decide +kernel
theorem d_W_addType_24 : decode b_W_addType 24 = .ok (.aload_n 0, 1) := by decide +kernel
theorem d_W_addType_25 : decode b_W_addType 25 = .ok (.getfield 40, 3) := by decide +kernel
theorem d_W_addType_28 : decode b_W_addType 28 = .ok (.iload_n 2, 1) := by decide +kernel
theorem d_W_addType_29 : decode b_W_addType 29 = .ok (.iastore, 1) := by decide +kernel
theorem d_W_addType_30 : decode b_W_addType 30 = .ok (.aload_n 0, 1) := by decide +kernel
theorem d_W_addType_31 : decode b_W_addType 31 = .ok (.getfield 18, 3) := by decide +kernel
theorem d_W_addType_34 : decode b_W_addType 34 = .ok (.aload_n 0, 1) := by decide +kernel
theorem d_W_addType_35 : decode b_W_addType 35 = .ok (.getfield 40, 3) := by decide +kernel
theorem d_W_addType_38 : decode b_W_addType 38 = .ok (.aload_n 0, 1) := by decide +kernel
theorem d_W_addType_39 : decode b_W_addType 39 = .ok (.getfield 40, 3) := by decide +kernel
theorem d_W_addType_42 : decode b_W_addType 42 = .ok (.iastore, 1) := by decide +kernel
theorem d_W_addType_43 : decode b_W_addType 43 = .ok (.aload_n 0, 1) := by decide +kernel
theorem d_W_addType_44 : decode b_W_addType 44 = .ok (.getfield 27, 3) := by decide +kernel
theorem d_W_addType_47 : decode b_W_addType 47 = .ok (.aload_n 0, 1) := by decide +kernel
theorem d_W_addType_48 : decode b_W_addType 48 = .ok (.getfield 40, 3) := by decide +kernel
theorem d_W_addType_51 : decode b_W_addType 51 = .ok (.aload_n 0, 1) := by decide +kernel
theorem d_W_addType_52 : decode b_W_addType 52 = .ok (.getfield 27, 3) := by decide +kernel
theorem d_W_addType_55 : decode b_W_addType 55 = .ok (.iload_n 1, 1) := by decide +kernel
theorem d_W_addType_56 : decode b_W_addType 56 = .ok (.iaload, 1) := by decide +kernel
theorem d_W_addType_57 : decode b_W_addType 57 = .ok (.iconst 1, 1) := by decide +kernel
theorem d_W_addType_58 : decode b_W_addType 58 = .ok (.aload_n 0, 1) := by decide +kernel
theorem d_W_addType_59 : decode b_W_addType 59 = .ok (.getfield 40, 3) := by decide +kernel
theorem d_W_addType_62 : decode b_W_addType 62 = .ok (.ishl, 1) := by decide +kernel
theorem d_W_addType_63 : decode b_W_addType 63 = .ok (.ior, 1) := by decide +kernel
theorem d_W_addType_64 : decode b_W_addType 64 = .ok (.iastore, 1) := by decide +kernel
theorem d_W_addType_65 : decode b_W_addType 65 = .ok (.iload_n 3, 1) := by decide +kernel
theorem d_W_addType_66 : decode b_W_addType 66 = .ok (.ifCond .eq 18, 3) := by decide +kernel
theorem d_W_addType_69 : decode b_W_addType 69 = .ok (.aload_n 0, 1) := by decide +kernel
theorem d_W_addType_70 : decode b_W_addType 70 = .ok (.dup, 1) := by decide +kernel
theorem d_W_addType_71 : decode b_W_addType 71 = .ok (.getfield 30, 3) := by decide +kernel
theorem d_W_addType_74 : decode b_W_addType 74 = .ok (.iconst 1, 1) := by decide +kernel
theorem d_W_addType_75 : decode b_W_addType 75 = .ok (.aload_n 0, 1) := by decide +kernel
theorem d_W_addType_76 : decode b_W_addType 76 = .ok (.getfield 40, 3) := by decide +kernel
theorem d_W_addType_79 : decode b_W_addType 79 = .ok (.ishl, 1) := by decide +kernel
theorem d_W_addType_80 : decode b_W_addType 80 = .ok (.ior, 1) := by decide +kernel
theorem d_W_addType_81 : decode b_W_addType 81 = .ok (.putfield 30, 3) := by decide +kernel
theorem d_W_addType_84 : decode b_W_addType 84 = .ok (.aload_n 0, 1) := by decide +kernel
theorem d_W_addType_85 : decode b_W_addType 85 = .ok (.getfield 40, 3) := by decide +kernel
theorem d_W_addType_88 : decode b_W_addType 88 = .ok (.ireturn, 1) := by decide +kernel
theorem d_W_addDirect_0 : decode b_W_addDirect 0 = .ok (.aload_n 0, 1) := by decide +kernel
theorem d_W_addDirect_1 : decode b_W_addDirect 1 = .ok (.getfield 24, 3) := by decide +kernel
theorem d_W_addDirect_4 : decode b_W_addDirect 4 = .ok (.iload_n 1, 1) := by decide +kernel
theorem d_W_addDirect_5 : decode b_W_addDirect 5 = .ok (.iconst 4, 1) := by decide +kernel
theorem d_W_addDirect_6 : decode b_W_addDirect 6 = .ok (.imul, 1) := by decide +kernel
theorem d_W_addDirect_7 : decode b_W_addDirect 7 = .ok (.aload_n 0, 1) := by decide +kernel
theorem d_W_addDirect_8 : decode b_W_addDirect 8 = .ok (.getfield 21, 3) := by decide +kernel
theorem d_W_addDirect_11 : decode b_W_addDirect 11 = .ok (.iload_n 1, 1) := by decide +kernel
theorem d_W_addDirect_12 : decode b_W_addDirect 12 = .ok (.iaload, 1) := by decide +kernel
theorem d_W_addDirect_13 : decode b_W_addDirect 13 = .ok (.iadd, 1) := by decide +kernel
theorem d_W_addDirect_14 : decode b_W_addDirect 14 = .ok (.iload_n 2, 1) := by decide +kernel
theorem d_W_addDirect_15 : decode b_W_addDirect 15 = .ok (.iastore, 1) := by decide +kernel
theorem d_W_addDirect_16 : decode b_W_addDirect 16 = .ok (.aload_n 0, 1) := by decide +kernel
theorem d_W_addDirect_17 : decode b_W_addDirect 17 = .ok (.getfield 21, 3) := by decide +kernel
theorem d_W_addDirect_20 : decode b_W_addDirect 20 = .ok (.iload_n 1, 1) := by decide +kernel
theorem d_W_addDirect_21 : decode b_W_addDirect 21 = .ok (.dup2, 1) := by decide +kernel
theorem d_W_addDirect_22 : decode b_W_addDirect 22 = .ok (.iaload, 1) := by decide +kernel
theorem d_W_addDirect_23 : decode b_W_addDirect 23 = .ok (.iconst 1, 1) := by decide +kernel
theorem d_W_addDirect_24 : decode b_W_addDirect 24 = .ok (.iadd, 1) := by decide +kernel
theorem d_W_addDirect_25 : decode b_W_addDirect 25 = .ok (.iastore, 1) := by decide +kernel
theorem d_W_addDirect_26 : decode b_W_addDirect 26 = .ok (.iload_n 1, 1) := by decide +kernel
theorem d_W_addDirect_27 : decode b_W_addDirect 27 = .ok (.istore_n 3, 1) := by decide +kernel
theorem d_W_addDirect_28 : decode b_W_addDirect 28 = .ok (.iload_n 3, 1) := by decide +kernel
theorem d_W_addDirect_29 : decode b_W_addDirect 29 = .ok (.aload_n 0, 1) := by decide +kernel
theorem d_W_addDirect_30 : decode b_W_addDirect 30 = .ok (.getfield 40, 3) := by decide +kernel
theorem d_W_addDirect_33 : decode b_W_addDirect 33 = .ok (.if_icmp .gt 37, 3) := by decide +kernel
theorem d_W_addDirect_36 : decode b_W_addDirect 36 = .ok (.aload_n 0, 1) := by decide +kernel
theorem d_W_addDirect_37 : decode b_W_addDirect 37 = .ok (.getfield 27, 3) := by decide +kernel
theorem d_W_addDirect_40 : decode b_W_addDirect 40 = .ok (.iload_n 3, 1) := by decide +kernel
theorem d_W_addDirect_41 : decode b_W_addDirect 41 = .ok (.iaload, 1) := by decide +kernel
theorem d_W_addDirect_42 : decode b_W_addDirect 42 = .ok (.iload_n 1, 1) := by decide +kernel
theorem d_W_addDirect_43 : decode b_W_addDirect 43 = .ok (.invokestatic 47, 3) := by decide +kernel
theorem d_W_addDirect_46 : decode b_W_addDirect 46 = .ok (.ifCond .eq 18, 3) := by decide +kernel
theorem d_W_addDirect_49 : decode b_W_addDirect 49 = .ok (.aload_n 0, 1) := by decide +kernel
theorem d_W_addDirect_50 : decode b_W_addDirect 50 = .ok (.getfield 27, 3) := by decide +kernel
theorem d_W_addDirect_53 : decode b_W_addDirect 53 = .ok (.iload_n 3, 1) := by decide +kernel
theorem d_W_addDirect_54 : decode b_W_addDirect 54 = .ok (.dup2, 1) := by decide +kernel
theorem d_W_addDirect_55 : decode b_W_addDirect 55 = .ok (.iaload, 1) := by decide +kernel
theorem d_W_addDirect_56 : decode b_W_addDirect 56 = .ok (.aload_n 0, 1) := by decide +kernel
theorem d_W_addDirect_57 : decode b_W_addDirect 57 = .ok (.getfield 27, 3) := by decide +kernel
theorem d_W_addDirect_60 : decode b_W_addDirect 60 = .ok (.iload_n 2, 1) := by decide +kernel
theorem d_W_addDirect_61 : decode b_W_addDirect 61 = .ok (.iaload, 1) := by decide +kernel
theorem d_W_addDirect_62 : decode b_W_addDirect 62 = .ok (.ior, 1) := by decide +kernel
theorem d_W_addDirect_63 : decode b_W_addDirect 63 = .ok (.iastore, 1) := by decide +kernel
theorem d_W_addDirect_64 : decode b_W_addDirect 64 = .ok (.iinc 3 1, 3) := by decide +kernel
theorem d_W_addDirect_67 : decode b_W_addDirect 67 = .ok (.goto (-39), 3) := by decide +kernel
theorem d_W_addDirect_70 : decode b_W_addDirect 70 = .ok (.aload_n 0, 1) := by decide +kernel
theorem d_W_addDirect_71 : decode b_W_addDirect 71 = .ok (.getfield 21, 3) := by decide +kernel
theorem d_W_addDirect_74 : decode b_W_addDirect 74 = .ok (.iload_n 1, 1) := by decide +kernel
theorem d_W_addDirect_75 : decode b_W_addDirect 75 = .ok (.iaload, 1) := by decide +kernel
theorem d_W_addDirect_76 : decode b_W_addDirect 76 = .ok (.ireturn, 1) := by decide +kernel
theorem d_W_hasDirect_0 : decode b_W_hasDirect 0 = .ok (.iconst 0, 1) := by decide +kernel
theorem d_W_hasDirect_1 : decode b_W_hasDirect 1 = .ok (.istore_n 3, 1) := by decide +kernel
theorem d_W_hasDirect_2 : decode b_W_hasDirect 2 = .ok (.iload_n 3, 1) := by decide +kernel
theorem d_W_hasDirect_3 : decode b_W_hasDirect 3 = .ok (.aload_n 0, 1) := by decide +kernel
theorem d_W_hasDirect_4 : decode b_W_hasDirect 4 = .ok (.getfield 21, 3) := by decide +kernel
theorem d_W_hasDirect_7 : decode b_W_hasDirect 7 = .ok (.iload_n 1, 1) := by decide +kernel
theorem d_W_hasDirect_8 : decode b_W_hasDirect 8 = .ok (.iaload, 1) := by decide +kernel
theorem d_W_hasDirect_9 : decode b_W_hasDirect 9 = .ok (.if_icmp .ge 21, 3) := by decide +kernel
theorem d_W_hasDirect_12 : decode b_W_hasDirect 12 = .ok (.aload_n 0, 1) := by decide +kernel
theorem d_W_hasDirect_13 : decode b_W_hasDirect 13 = .ok (.iload_n 1, 1) := by decide +kernel
theorem d_W_hasDirect_14 : decode b_W_hasDirect 14 = .ok (.iload_n 3, 1) := by decide +kernel
theorem d_W_hasDirect_15 : decode b_W_hasDirect 15 = .ok (.invokevirtual 58, 3) := by decide +kernel
theorem d_W_hasDirect_18 : decode b_W_hasDirect 18 = .ok (.iload_n 2, 1) := by decide +kernel
theorem d_W_hasDirect_19 : decode b_W_hasDirect 19 = .ok (.if_icmp .ne 5, 3) := by decide +kernel
theorem d_W_hasDirect_22 : decode b_W_hasDirect 22 = .ok (.iconst 1, 1) := by decide +kernel
theorem d_W_hasDirect_23 : decode b_W_hasDirect 23 = .ok (.ireturn, 1) := by decide +kernel
theorem d_W_hasDirect_24 : decode b_W_hasDirect 24 = .ok (.iinc 3 1, 3) := by decide +kernel
theorem d_W_hasDirect_27 : decode b_W_hasDirect 27 = .ok (.goto (-25), 3) := by decide +kernel
theorem d_W_hasDirect_30 : decode b_W_hasDirect 30 = .ok (.iconst 0, 1) := by decide +kernel
theorem d_W_hasDirect_31 : decode b_W_hasDirect 31 = .ok (.ireturn, 1) := by decide +kernel
theorem d_W_directCount_0 : decode b_W_directCount 0 = .ok (.aload_n 0, 1) := by decide +kernel
theorem d_W_directCount_1 : decode b_W_directCount 1 = .ok (.getfield 21, 3) := by decide +kernel
theorem d_W_directCount_4 : decode b_W_directCount 4 = .ok (.iload_n 1, 1) := by decide +kernel
theorem d_W_directCount_5 : decode b_W_directCount 5 = .ok (.iaload, 1) := by decide +kernel
theorem d_W_directCount_6 : decode b_W_directCount 6 = .ok (.ireturn, 1) := by decide +kernel
theorem d_W_directAt_0 : decode b_W_directAt 0 = .ok (.aload_n 0, 1) := by decide +kernel
theorem d_W_directAt_1 : decode b_W_directAt 1 = .ok (.getfield 24, 3) := by decide +kernel
theorem d_W_directAt_4 : decode b_W_directAt 4 = .ok (.iload_n 1, 1) := by decide +kernel
theorem d_W_directAt_5 : decode b_W_directAt 5 = .ok (.iconst 4, 1) := by decide +kernel
theorem d_W_directAt_6 : decode b_W_directAt 6 = .ok (.imul, 1) := by decide +kernel
theorem d_W_directAt_7 : decode b_W_directAt 7 = .ok (.iload_n 2, 1) := by decide +kernel
theorem d_W_directAt_8 : decode b_W_directAt 8 = .ok (.iadd, 1) := by decide +kernel
theorem d_W_directAt_9 : decode b_W_directAt 9 = .ok (.iaload, 1) := by decide +kernel
theorem d_W_directAt_10 : decode b_W_directAt 10 = .ok (.ireturn, 1) := by decide +kernel
theorem d_W_superclassOf_0 : decode b_W_superclassOf 0 = .ok (.aload_n 0, 1) := by decide +kernel
theorem d_W_superclassOf_1 : decode b_W_superclassOf 1 = .ok (.getfield 9, 3) := by decide +kernel
theorem d_W_superclassOf_4 : decode b_W_superclassOf 4 = .ok (.iload_n 1, 1) := by decide +kernel
theorem d_W_superclassOf_5 : decode b_W_superclassOf 5 = .ok (.iaload, 1) := by decide +kernel
theorem d_W_superclassOf_6 : decode b_W_superclassOf 6 = .ok (.ireturn, 1) := by decide +kernel
theorem d_W_packageOf_0 : decode b_W_packageOf 0 = .ok (.aload_n 0, 1) := by decide +kernel
theorem d_W_packageOf_1 : decode b_W_packageOf 1 = .ok (.getfield 15, 3) := by decide +kernel
theorem d_W_packageOf_4 : decode b_W_packageOf 4 = .ok (.iload_n 1, 1) := by decide +kernel
theorem d_W_packageOf_5 : decode b_W_packageOf 5 = .ok (.iaload, 1) := by decide +kernel
theorem d_W_packageOf_6 : decode b_W_packageOf 6 = .ok (.ireturn, 1) := by decide +kernel
theorem d_W_hostOf_0 : decode b_W_hostOf 0 = .ok (.aload_n 0, 1) := by decide +kernel
theorem d_W_hostOf_1 : decode b_W_hostOf 1 = .ok (.getfield 18, 3) := by decide +kernel
theorem d_W_hostOf_4 : decode b_W_hostOf 4 = .ok (.iload_n 1, 1) := by decide +kernel
theorem d_W_hostOf_5 : decode b_W_hostOf 5 = .ok (.iaload, 1) := by decide +kernel
theorem d_W_hostOf_6 : decode b_W_hostOf 6 = .ok (.ireturn, 1) := by decide +kernel
theorem d_W_setHost_0 : decode b_W_setHost 0 = .ok (.aload_n 0, 1) := by decide +kernel
theorem d_W_setHost_1 : decode b_W_setHost 1 = .ok (.getfield 18, 3) := by decide +kernel
theorem d_W_setHost_4 : decode b_W_setHost 4 = .ok (.iload_n 1, 1) := by decide +kernel
theorem d_W_setHost_5 : decode b_W_setHost 5 = .ok (.iload_n 2, 1) := by decide +kernel
theorem d_W_setHost_6 : decode b_W_setHost 6 = .ok (.iastore, 1) := by decide +kernel
theorem d_W_setHost_7 : decode b_W_setHost 7 = .ok (.return_, 1) := by decide +kernel
theorem d_W_hostsAnother_0 : decode b_W_hostsAnother 0 = .ok (.iconst 1, 1) := by decide +kernel
theorem d_W_hostsAnother_1 : decode b_W_hostsAnother 1 = .ok (.istore_n 2, 1) := by decide +kernel
theorem d_W_hostsAnother_2 : decode b_W_hostsAnother 2 = .ok (.iload_n 2, 1) := by decide +kernel
theorem d_W_hostsAnother_3 : decode b_W_hostsAnother 3 = .ok (.aload_n 0, 1) := by decide +kernel
theorem d_W_hostsAnother_4 : decode b_W_hostsAnother 4 = .ok (.getfield 40, 3) := by decide +kernel
theorem d_W_hostsAnother_7 : decode b_W_hostsAnother 7 = .ok (.if_icmp .gt 26, 3) := by decide +kernel
theorem d_W_hostsAnother_10 : decode b_W_hostsAnother 10 = .ok (.iload_n 2, 1) := by decide +kernel
theorem d_W_hostsAnother_11 : decode b_W_hostsAnother 11 = .ok (.iload_n 1, 1) := by decide +kernel
theorem d_W_hostsAnother_12 : decode b_W_hostsAnother 12 = .ok (.if_icmp .eq 15, 3) := by decide +kernel
theorem d_W_hostsAnother_15 : decode b_W_hostsAnother 15 = .ok (.aload_n 0, 1) := by decide +kernel
theorem d_W_hostsAnother_16 : decode b_W_hostsAnother 16 = .ok (.getfield 18, 3) := by decide +kernel
theorem d_W_hostsAnother_19 : decode b_W_hostsAnother 19 = .ok (.iload_n 2, 1) := by decide +kernel
theorem d_W_hostsAnother_20 : decode b_W_hostsAnother 20 = .ok (.iaload, 1) := by decide +kernel
theorem d_W_hostsAnother_21 : decode b_W_hostsAnother 21 = .ok (.iload_n 1, 1) := by decide +kernel
theorem d_W_hostsAnother_22 : decode b_W_hostsAnother 22 = .ok (.if_icmp .ne 5, 3) := by decide +kernel
theorem d_W_hostsAnother_25 : decode b_W_hostsAnother 25 = .ok (.iconst 1, 1) := by decide +kernel
theorem d_W_hostsAnother_26 : decode b_W_hostsAnother 26 = .ok (.ireturn, 1) := by decide +kernel
theorem d_W_hostsAnother_27 : decode b_W_hostsAnother 27 = .ok (.iinc 2 1, 3) := by decide +kernel
theorem d_W_hostsAnother_30 : decode b_W_hostsAnother 30 = .ok (.goto (-28), 3) := by decide +kernel
theorem d_W_hostsAnother_33 : decode b_W_hostsAnother 33 = .ok (.iconst 0, 1) := by decide +kernel
theorem d_W_hostsAnother_34 : decode b_W_hostsAnother 34 = .ok (.ireturn, 1) := by decide +kernel
theorem d_W_sameHost_0 : decode b_W_sameHost 0 = .ok (.aload_n 0, 1) := by decide +kernel
theorem d_W_sameHost_1 : decode b_W_sameHost 1 = .ok (.getfield 18, 3) := by decide +kernel
theorem d_W_sameHost_4 : decode b_W_sameHost 4 = .ok (.iload_n 1, 1) := by decide +kernel
theorem d_W_sameHost_5 : decode b_W_sameHost 5 = .ok (.iaload, 1) := by decide +kernel
theorem d_W_sameHost_6 : decode b_W_sameHost 6 = .ok (.aload_n 0, 1) := by decide +kernel
theorem d_W_sameHost_7 : decode b_W_sameHost 7 = .ok (.getfield 18, 3) := by decide +kernel
theorem d_W_sameHost_10 : decode b_W_sameHost 10 = .ok (.iload_n 2, 1) := by decide +kernel
theorem d_W_sameHost_11 : decode b_W_sameHost 11 = .ok (.iaload, 1) := by decide +kernel
theorem d_W_sameHost_12 : decode b_W_sameHost 12 = .ok (.if_icmp .ne 7, 3) := by decide +kernel
theorem d_W_sameHost_15 : decode b_W_sameHost 15 = .ok (.iconst 1, 1) := by decide +kernel
theorem d_W_sameHost_16 : decode b_W_sameHost 16 = .ok (.goto 4, 3) := by decide +kernel
theorem d_W_sameHost_19 : decode b_W_sameHost 19 = .ok (.iconst 0, 1) := by decide +kernel
theorem d_W_sameHost_20 : decode b_W_sameHost 20 = .ok (.ireturn, 1) := by decide +kernel
theorem d_W_samePackage_0 : decode b_W_samePackage 0 = .ok (.aload_n 0, 1) := by decide +kernel
theorem d_W_samePackage_1 : decode b_W_samePackage 1 = .ok (.getfield 15, 3) := by decide +kernel
theorem d_W_samePackage_4 : decode b_W_samePackage 4 = .ok (.iload_n 1, 1) := by decide +kernel
theorem d_W_samePackage_5 : decode b_W_samePackage 5 = .ok (.iaload, 1) := by decide +kernel
theorem d_W_samePackage_6 : decode b_W_samePackage 6 = .ok (.aload_n 0, 1) := by decide +kernel
theorem d_W_samePackage_7 : decode b_W_samePackage 7 = .ok (.getfield 15, 3) := by decide +kernel
theorem d_W_samePackage_10 : decode b_W_samePackage 10 = .ok (.iload_n 2, 1) := by decide +kernel
theorem d_W_samePackage_11 : decode b_W_samePackage 11 = .ok (.iaload, 1) := by decide +kernel
theorem d_W_samePackage_12 : decode b_W_samePackage 12 = .ok (.if_icmp .ne 7, 3) := by decide +kernel
theorem d_W_samePackage_15 : decode b_W_samePackage 15 = .ok (.iconst 1, 1) := by decide +kernel
theorem d_W_samePackage_16 : decode b_W_samePackage 16 = .ok (.goto 4, 3) := by decide +kernel
theorem d_W_samePackage_19 : decode b_W_samePackage 19 = .ok (.iconst 0, 1) := by decide +kernel
theorem d_W_samePackage_20 : decode b_W_samePackage 20 = .ok (.ireturn, 1) := by decide +kernel
theorem d_W_mayUseType_0 : decode b_W_mayUseType 0 = .ok (.aload_n 0, 1) := by decide +kernel
theorem d_W_mayUseType_1 : decode b_W_mayUseType 1 = .ok (.getfield 30, 3) := by decide +kernel
theorem d_W_mayUseType_4 : decode b_W_mayUseType 4 = .ok (.iload_n 1, 1) := by decide +kernel
theorem d_W_mayUseType_5 : decode b_W_mayUseType 5 = .ok (.invokestatic 47, 3) := by decide +kernel
theorem d_W_mayUseType_8 : decode b_W_mayUseType 8 = .ok (.ifCond .ne 12, 3) := by decide +kernel
theorem d_W_mayUseType_11 : decode b_W_mayUseType 11 = .ok (.aload_n 0, 1) := by decide +kernel
theorem d_W_mayUseType_12 : decode b_W_mayUseType 12 = .ok (.iload_n 1, 1) := by decide +kernel
theorem d_W_mayUseType_13 : decode b_W_mayUseType 13 = .ok (.iload_n 2, 1) := by decide +kernel
theorem d_W_mayUseType_14 : decode b_W_mayUseType 14 = .ok (.invokevirtual 62, 3) := by decide +kernel
theorem d_W_mayUseType_17 : decode b_W_mayUseType 17 = .ok (.ifCond .eq 7, 3) := by decide +kernel
theorem d_W_mayUseType_20 : decode b_W_mayUseType 20 = .ok (.iconst 1, 1) := by decide +kernel
theorem d_W_mayUseType_21 : decode b_W_mayUseType 21 = .ok (.goto 4, 3) := by decide +kernel
theorem d_W_mayUseType_24 : decode b_W_mayUseType 24 = .ok (.iconst 0, 1) := by decide +kernel
theorem d_W_mayUseType_25 : decode b_W_mayUseType 25 = .ok (.ireturn, 1) := by decide +kernel
theorem d_W_isKindOf_0 : decode b_W_isKindOf 0 = .ok (.aload_n 0, 1) := by decide +kernel
theorem d_W_isKindOf_1 : decode b_W_isKindOf 1 = .ok (.getfield 27, 3) := by decide +kernel
theorem d_W_isKindOf_4 : decode b_W_isKindOf 4 = .ok (.iload_n 1, 1) := by decide +kernel
theorem d_W_isKindOf_5 : decode b_W_isKindOf 5 = .ok (.iaload, 1) := by decide +kernel
theorem d_W_isKindOf_6 : decode b_W_isKindOf 6 = .ok (.iload_n 2, 1) := by decide +kernel
theorem d_W_isKindOf_7 : decode b_W_isKindOf 7 = .ok (.invokestatic 47, 3) := by decide +kernel
theorem d_W_isKindOf_10 : decode b_W_isKindOf 10 = .ok (.ireturn, 1) := by decide +kernel
theorem d_W_supertypes_0 : decode b_W_supertypes 0 = .ok (.aload_n 0, 1) := by decide +kernel
theorem d_W_supertypes_1 : decode b_W_supertypes 1 = .ok (.getfield 27, 3) := by decide +kernel
theorem d_W_supertypes_4 : decode b_W_supertypes 4 = .ok (.iload_n 1, 1) := by decide +kernel
theorem d_W_supertypes_5 : decode b_W_supertypes 5 = .ok (.iaload, 1) := by decide +kernel
theorem d_W_supertypes_6 : decode b_W_supertypes 6 = .ok (.iconst 1, 1) := by decide +kernel
theorem d_W_supertypes_7 : decode b_W_supertypes 7 = .ok (.iload_n 1, 1) := by decide +kernel
theorem d_W_supertypes_8 : decode b_W_supertypes 8 = .ok (.ishl, 1) := by decide +kernel
theorem d_W_supertypes_9 : decode b_W_supertypes 9 = .ok (.iconst (-1), 1) := by decide +kernel
theorem d_W_supertypes_10 : decode b_W_supertypes 10 = .ok (.ixor, 1) := by decide +kernel
theorem d_W_supertypes_11 : decode b_W_supertypes 11 = .ok (.iand, 1) := by decide +kernel
theorem d_W_supertypes_12 : decode b_W_supertypes 12 = .ok (.ireturn, 1) := by decide +kernel
theorem d_W_kindsOf_0 : decode b_W_kindsOf 0 = .ok (.iconst 0, 1) := by decide +kernel
theorem d_W_kindsOf_1 : decode b_W_kindsOf 1 = .ok (.istore_n 2, 1) := by decide +kernel
theorem d_W_kindsOf_2 : decode b_W_kindsOf 2 = .ok (.iload_n 1, 1) := by decide +kernel
theorem d_W_kindsOf_3 : decode b_W_kindsOf 3 = .ok (.istore_n 3, 1) := by decide +kernel
theorem d_W_kindsOf_4 : decode b_W_kindsOf 4 = .ok (.iload_n 3, 1) := by decide +kernel
theorem d_W_kindsOf_5 : decode b_W_kindsOf 5 = .ok (.aload_n 0, 1) := by decide +kernel
theorem d_W_kindsOf_6 : decode b_W_kindsOf 6 = .ok (.getfield 40, 3) := by decide +kernel
theorem d_W_kindsOf_9 : decode b_W_kindsOf 9 = .ok (.if_icmp .gt 28, 3) := by decide +kernel
theorem d_W_kindsOf_12 : decode b_W_kindsOf 12 = .ok (.aload_n 0, 1) := by decide +kernel
theorem d_W_kindsOf_13 : decode b_W_kindsOf 13 = .ok (.getfield 27, 3) := by decide +kernel
theorem d_W_kindsOf_16 : decode b_W_kindsOf 16 = .ok (.iload_n 3, 1) := by decide +kernel
theorem d_W_kindsOf_17 : decode b_W_kindsOf 17 = .ok (.iaload, 1) := by decide +kernel
theorem d_W_kindsOf_18 : decode b_W_kindsOf 18 = .ok (.iload_n 1, 1) := by decide +kernel
theorem d_W_kindsOf_19 : decode b_W_kindsOf 19 = .ok (.invokestatic 47, 3) := by decide +kernel
theorem d_W_kindsOf_22 : decode b_W_kindsOf 22 = .ok (.ifCond .eq 9, 3) := by decide +kernel
theorem d_W_kindsOf_25 : decode b_W_kindsOf 25 = .ok (.iload_n 2, 1) := by decide +kernel
theorem d_W_kindsOf_26 : decode b_W_kindsOf 26 = .ok (.iconst 1, 1) := by decide +kernel
theorem d_W_kindsOf_27 : decode b_W_kindsOf 27 = .ok (.iload_n 3, 1) := by decide +kernel
theorem d_W_kindsOf_28 : decode b_W_kindsOf 28 = .ok (.ishl, 1) := by decide +kernel
theorem d_W_kindsOf_29 : decode b_W_kindsOf 29 = .ok (.ior, 1) := by decide +kernel
theorem d_W_kindsOf_30 : decode b_W_kindsOf 30 = .ok (.istore_n 2, 1) := by decide +kernel
theorem d_W_kindsOf_31 : decode b_W_kindsOf 31 = .ok (.iinc 3 1, 3) := by decide +kernel
theorem d_W_kindsOf_34 : decode b_W_kindsOf 34 = .ok (.goto (-30), 3) := by decide +kernel
theorem d_W_kindsOf_37 : decode b_W_kindsOf 37 = .ok (.iload_n 2, 1) := by decide +kernel
theorem d_W_kindsOf_38 : decode b_W_kindsOf 38 = .ok (.ireturn, 1) := by decide +kernel
theorem d_W_interfaces_0 : decode b_W_interfaces 0 = .ok (.aload_n 0, 1) := by decide +kernel
theorem d_W_interfaces_1 : decode b_W_interfaces 1 = .ok (.getfield 37, 3) := by decide +kernel
theorem d_W_interfaces_4 : decode b_W_interfaces 4 = .ok (.ireturn, 1) := by decide +kernel
theorem d_W_chain_0 : decode b_W_chain 0 = .ok (.aload_n 0, 1) := by decide +kernel
theorem d_W_chain_1 : decode b_W_chain 1 = .ok (.getfield 27, 3) := by decide +kernel
theorem d_W_chain_4 : decode b_W_chain 4 = .ok (.iload_n 1, 1) := by decide +kernel
theorem d_W_chain_5 : decode b_W_chain 5 = .ok (.iaload, 1) := by decide +kernel
theorem d_W_chain_6 : decode b_W_chain 6 = .ok (.aload_n 0, 1) := by decide +kernel
theorem d_W_chain_7 : decode b_W_chain 7 = .ok (.getfield 37, 3) := by decide +kernel
theorem d_W_chain_10 : decode b_W_chain 10 = .ok (.iconst (-1), 1) := by decide +kernel
theorem d_W_chain_11 : decode b_W_chain 11 = .ok (.ixor, 1) := by decide +kernel
theorem d_W_chain_12 : decode b_W_chain 12 = .ok (.iand, 1) := by decide +kernel
theorem d_W_chain_13 : decode b_W_chain 13 = .ok (.iconst 1, 1) := by decide +kernel
theorem d_W_chain_14 : decode b_W_chain 14 = .ok (.iload_n 1, 1) := by decide +kernel
theorem d_W_chain_15 : decode b_W_chain 15 = .ok (.ishl, 1) := by decide +kernel
theorem d_W_chain_16 : decode b_W_chain 16 = .ok (.ior, 1) := by decide +kernel
theorem d_W_chain_17 : decode b_W_chain 17 = .ok (.ireturn, 1) := by decide +kernel
theorem d_W_search_0 : decode b_W_search 0 = .ok (.iload_n 1, 1) := by decide +kernel
theorem d_W_search_1 : decode b_W_search 1 = .ok (.istore_n 3, 1) := by decide +kernel
theorem d_W_search_2 : decode b_W_search 2 = .ok (.iconst 0, 1) := by decide +kernel
theorem d_W_search_3 : decode b_W_search 3 = .ok (.istore 4, 2) := by decide +kernel
theorem d_W_search_5 : decode b_W_search 5 = .ok (.iload 4, 2) := by decide +kernel
theorem d_W_search_7 : decode b_W_search 7 = .ok (.bipush 12, 2) := by decide +kernel
theorem d_W_search_9 : decode b_W_search 9 = .ok (.if_icmp .ge 37, 3) := by decide +kernel
theorem d_W_search_12 : decode b_W_search 12 = .ok (.aload_n 0, 1) := by decide +kernel
theorem d_W_search_13 : decode b_W_search 13 = .ok (.getfield 27, 3) := by decide +kernel
