theorem d_O_canOverride_26 : decode b_O_canOverride 26 = .ok (.invokevirtual 172, 3) := by decide +kernel
theorem d_O_canOverride_29 : decode b_O_canOverride 29 = .ok (.aload_n 0, 1) := by decide +kernel
theorem d_O_canOverride_30 : decode b_O_canOverride 30 = .ok (.getfield 10, 3) := by decide +kernel
theorem d_O_canOverride_33 : decode b_O_canOverride 33 = .ok (.iload_n 2, 1) := by decide +kernel
theorem d_O_canOverride_34 : decode b_O_canOverride 34 = .ok (.invokevirtual 209, 3) := by decide +kernel
theorem d_O_canOverride_37 : decode b_O_canOverride 37 = .ok (.iand, 1) := by decide +kernel
theorem d_O_canOverride_38 : decode b_O_canOverride 38 = .ok (.iload 4, 2) := by decide +kernel
theorem d_O_canOverride_40 : decode b_O_canOverride 40 = .ok (.iand, 1) := by decide +kernel
theorem d_O_canOverride_41 : decode b_O_canOverride 41 = .ok (.istore 5, 2) := by decide +kernel
theorem d_O_canOverride_43 : decode b_O_canOverride 43 = .ok (.iconst 1, 1) := by decide +kernel
theorem d_O_canOverride_44 : decode b_O_canOverride 44 = .ok (.iload_n 2, 1) := by decide +kernel
theorem d_O_canOverride_45 : decode b_O_canOverride 45 = .ok (.ishl, 1) := by decide +kernel
theorem d_O_canOverride_46 : decode b_O_canOverride 46 = .ok (.istore 6, 2) := by decide +kernel
theorem d_O_canOverride_48 : decode b_O_canOverride 48 = .ok (.iload_n 2, 1) := by decide +kernel
theorem d_O_canOverride_49 : decode b_O_canOverride 49 = .ok (.iconst 1, 1) := by decide +kernel
theorem d_O_canOverride_50 : decode b_O_canOverride 50 = .ok (.iadd, 1) := by decide +kernel
theorem d_O_canOverride_51 : decode b_O_canOverride 51 = .ok (.istore 7, 2) := by decide +kernel
theorem d_O_canOverride_53 : decode b_O_canOverride 53 = .ok (.iload 7, 2) := by decide +kernel
theorem d_O_canOverride_55 : decode b_O_canOverride 55 = .ok (.iload_n 1, 1) := by decide +kernel
theorem d_O_canOverride_56 : decode b_O_canOverride 56 = .ok (.if_icmp .gt 40, 3) := by decide +kernel
theorem d_O_canOverride_59 : decode b_O_canOverride 59 = .ok (.iload 5, 2) := by decide +kernel
theorem d_O_canOverride_61 : decode b_O_canOverride 61 = .ok (.iload 7, 2) := by decide +kernel
theorem d_O_canOverride_63 : decode b_O_canOverride 63 = .ok (.invokestatic 200, 3) := by decide +kernel
theorem d_O_canOverride_66 : decode b_O_canOverride 66 = .ok (.ifCond .eq 24, 3) := by decide +kernel
theorem d_O_canOverride_69 : decode b_O_canOverride 69 = .ok (.aload_n 0, 1) := by decide +kernel
theorem d_O_canOverride_70 : decode b_O_canOverride 70 = .ok (.iload 7, 2) := by decide +kernel
theorem d_O_canOverride_72 : decode b_O_canOverride 72 = .ok (.iload 6, 2) := by decide +kernel
theorem d_O_canOverride_74 : decode b_O_canOverride 74 = .ok (.iload_n 3, 1) := by decide +kernel
theorem d_O_canOverride_75 : decode b_O_canOverride 75 = .ok (.invokevirtual 212, 3) := by decide +kernel
theorem d_O_canOverride_78 : decode b_O_canOverride 78 = .ok (.ifCond .eq 12, 3) := by decide +kernel
theorem d_O_canOverride_81 : decode b_O_canOverride 81 = .ok (.iload 6, 2) := by decide +kernel
theorem d_O_canOverride_83 : decode b_O_canOverride 83 = .ok (.iconst 1, 1) := by decide +kernel
theorem d_O_canOverride_84 : decode b_O_canOverride 84 = .ok (.iload 7, 2) := by decide +kernel
theorem d_O_canOverride_86 : decode b_O_canOverride 86 = .ok (.ishl, 1) := by decide +kernel
theorem d_O_canOverride_87 : decode b_O_canOverride 87 = .ok (.ior, 1) := by decide +kernel
theorem d_O_canOverride_88 : decode b_O_canOverride 88 = .ok (.istore 6, 2) := by decide +kernel
theorem d_O_canOverride_90 : decode b_O_canOverride 90 = .ok (.iinc 7 1, 3) := by decide +kernel
theorem d_O_canOverride_93 : decode b_O_canOverride 93 = .ok (.goto (-40), 3) := by decide +kernel
theorem d_O_canOverride_96 : decode b_O_canOverride 96 = .ok (.iload 6, 2) := by decide +kernel
theorem d_O_canOverride_98 : decode b_O_canOverride 98 = .ok (.iload_n 1, 1) := by decide +kernel
theorem d_O_canOverride_99 : decode b_O_canOverride 99 = .ok (.invokestatic 200, 3) := by decide +kernel
theorem d_O_canOverride_102 : decode b_O_canOverride 102 = .ok (.ireturn, 1) := by decide +kernel
theorem d_O_overridesOneOf_0 : decode b_O_overridesOneOf 0 = .ok (.iconst 1, 1) := by decide +kernel
theorem d_O_overridesOneOf_1 : decode b_O_overridesOneOf 1 = .ok (.istore 4, 2) := by decide +kernel
theorem d_O_overridesOneOf_3 : decode b_O_overridesOneOf 3 = .ok (.iload 4, 2) := by decide +kernel
theorem d_O_overridesOneOf_5 : decode b_O_overridesOneOf 5 = .ok (.iload_n 1, 1) := by decide +kernel
theorem d_O_overridesOneOf_6 : decode b_O_overridesOneOf 6 = .ok (.if_icmp .ge 31, 3) := by decide +kernel
theorem d_O_overridesOneOf_9 : decode b_O_overridesOneOf 9 = .ok (.iload_n 2, 1) := by decide +kernel
theorem d_O_overridesOneOf_10 : decode b_O_overridesOneOf 10 = .ok (.iload 4, 2) := by decide +kernel
theorem d_O_overridesOneOf_12 : decode b_O_overridesOneOf 12 = .ok (.invokestatic 200, 3) := by decide +kernel
theorem d_O_overridesOneOf_15 : decode b_O_overridesOneOf 15 = .ok (.ifCond .eq 16, 3) := by decide +kernel
theorem d_O_overridesOneOf_18 : decode b_O_overridesOneOf 18 = .ok (.aload_n 0, 1) := by decide +kernel
theorem d_O_overridesOneOf_19 : decode b_O_overridesOneOf 19 = .ok (.iload_n 1, 1) := by decide +kernel
theorem d_O_overridesOneOf_20 : decode b_O_overridesOneOf 20 = .ok (.iload 4, 2) := by decide +kernel
theorem d_O_overridesOneOf_22 : decode b_O_overridesOneOf 22 = .ok (.iload_n 3, 1) := by decide +kernel
theorem d_O_overridesOneOf_23 : decode b_O_overridesOneOf 23 = .ok (.invokevirtual 215, 3) := by decide +kernel
theorem d_O_overridesOneOf_26 : decode b_O_overridesOneOf 26 = .ok (.ifCond .eq 5, 3) := by decide +kernel
theorem d_O_overridesOneOf_29 : decode b_O_overridesOneOf 29 = .ok (.iconst 1, 1) := by decide +kernel
theorem d_O_overridesOneOf_30 : decode b_O_overridesOneOf 30 = .ok (.ireturn, 1) := by decide +kernel
theorem d_O_overridesOneOf_31 : decode b_O_overridesOneOf 31 = .ok (.iinc 4 1, 3) := by decide +kernel
theorem d_O_overridesOneOf_34 : decode b_O_overridesOneOf 34 = .ok (.goto (-31), 3) := by decide +kernel
theorem d_O_overridesOneOf_37 : decode b_O_overridesOneOf 37 = .ok (.iconst 0, 1) := by decide +kernel
theorem d_O_overridesOneOf_38 : decode b_O_overridesOneOf 38 = .ok (.ireturn, 1) := by decide +kernel
theorem d_O_overridesAtOnce_0 : decode b_O_overridesAtOnce 0 = .ok (.aload_n 0, 1) := by decide +kernel
theorem d_O_overridesAtOnce_1 : decode b_O_overridesAtOnce 1 = .ok (.getfield 23, 3) := by decide +kernel
theorem d_O_overridesAtOnce_4 : decode b_O_overridesAtOnce 4 = .ok (.iload_n 1, 1) := by decide +kernel
theorem d_O_overridesAtOnce_5 : decode b_O_overridesAtOnce 5 = .ok (.iload_n 3, 1) := by decide +kernel
theorem d_O_overridesAtOnce_6 : decode b_O_overridesAtOnce 6 = .ok (.invokevirtual 187, 3) := by decide +kernel
theorem d_O_overridesAtOnce_9 : decode b_O_overridesAtOnce 9 = .ok (.ifCond .ne 5, 3) := by decide +kernel
theorem d_O_overridesAtOnce_12 : decode b_O_overridesAtOnce 12 = .ok (.iconst 0, 1) := by decide +kernel
theorem d_O_overridesAtOnce_13 : decode b_O_overridesAtOnce 13 = .ok (.ireturn, 1) := by decide +kernel
theorem d_O_overridesAtOnce_14 : decode b_O_overridesAtOnce 14 = .ok (.aload_n 0, 1) := by decide +kernel
theorem d_O_overridesAtOnce_15 : decode b_O_overridesAtOnce 15 = .ok (.getfield 23, 3) := by decide +kernel
theorem d_O_overridesAtOnce_18 : decode b_O_overridesAtOnce 18 = .ok (.iload_n 2, 1) := by decide +kernel
theorem d_O_overridesAtOnce_19 : decode b_O_overridesAtOnce 19 = .ok (.iload_n 3, 1) := by decide +kernel
theorem d_O_overridesAtOnce_20 : decode b_O_overridesAtOnce 20 = .ok (.invokevirtual 187, 3) := by decide +kernel
theorem d_O_overridesAtOnce_23 : decode b_O_overridesAtOnce 23 = .ok (.tableswitch 37 1 3 #[27, 25, 25], 25) := by decide +kernel
theorem d_O_overridesAtOnce_48 : decode b_O_overridesAtOnce 48 = .ok (.iconst 1, 1) := by decide +kernel
theorem d_O_overridesAtOnce_49 : decode b_O_overridesAtOnce 49 = .ok (.ireturn, 1) := by decide +kernel
theorem d_O_overridesAtOnce_50 : decode b_O_overridesAtOnce 50 = .ok (.aload_n 0, 1) := by decide +kernel
theorem d_O_overridesAtOnce_51 : decode b_O_overridesAtOnce 51 = .ok (.getfield 10, 3) := by decide +kernel
theorem d_O_overridesAtOnce_54 : decode b_O_overridesAtOnce 54 = .ok (.iload_n 1, 1) := by decide +kernel
theorem d_O_overridesAtOnce_55 : decode b_O_overridesAtOnce 55 = .ok (.iload_n 2, 1) := by decide +kernel
theorem d_O_overridesAtOnce_56 : decode b_O_overridesAtOnce 56 = .ok (.invokevirtual 67, 3) := by decide +kernel
theorem d_O_overridesAtOnce_59 : decode b_O_overridesAtOnce 59 = .ok (.ireturn, 1) := by decide +kernel
theorem d_O_overridesAtOnce_60 : decode b_O_overridesAtOnce 60 = .ok (.iconst 0, 1) := by decide +kernel
theorem d_O_overridesAtOnce_61 : decode b_O_overridesAtOnce 61 = .ok (.ireturn, 1) := by decide +kernel
theorem d_O_select_0 : decode b_O_select 0 = .ok (.aload_n 0, 1) := by decide +kernel
theorem d_O_select_1 : decode b_O_select 1 = .ok (.getfield 23, 3) := by decide +kernel
theorem d_O_select_4 : decode b_O_select 4 = .ok (.iload_n 2, 1) := by decide +kernel
theorem d_O_select_5 : decode b_O_select 5 = .ok (.iload_n 3, 1) := by decide +kernel
theorem d_O_select_6 : decode b_O_select 6 = .ok (.invokevirtual 187, 3) := by decide +kernel
theorem d_O_select_9 : decode b_O_select 9 = .ok (.ifCond .ne 5, 3) := by decide +kernel
theorem d_O_select_12 : decode b_O_select 12 = .ok (.iload_n 2, 1) := by decide +kernel
theorem d_O_select_13 : decode b_O_select 13 = .ok (.ireturn, 1) := by decide +kernel
theorem d_O_select_14 : decode b_O_select 14 = .ok (.aload_n 0, 1) := by decide +kernel
theorem d_O_select_15 : decode b_O_select 15 = .ok (.getfield 10, 3) := by decide +kernel
theorem d_O_select_18 : decode b_O_select 18 = .ok (.iload_n 1, 1) := by decide +kernel
theorem d_O_select_19 : decode b_O_select 19 = .ok (.invokevirtual 172, 3) := by decide +kernel
theorem d_O_select_22 : decode b_O_select 22 = .ok (.istore 4, 2) := by decide +kernel
theorem d_O_select_24 : decode b_O_select 24 = .ok (.iload_n 1, 1) := by decide +kernel
theorem d_O_select_25 : decode b_O_select 25 = .ok (.istore 5, 2) := by decide +kernel
theorem d_O_select_27 : decode b_O_select 27 = .ok (.iload 5, 2) := by decide +kernel
theorem d_O_select_29 : decode b_O_select 29 = .ok (.iconst 1, 1) := by decide +kernel
theorem d_O_select_30 : decode b_O_select 30 = .ok (.if_icmp .lt 33, 3) := by decide +kernel
theorem d_O_select_33 : decode b_O_select 33 = .ok (.iload 4, 2) := by decide +kernel
theorem d_O_select_35 : decode b_O_select 35 = .ok (.iload 5, 2) := by decide +kernel
theorem d_O_select_37 : decode b_O_select 37 = .ok (.invokestatic 200, 3) := by decide +kernel
theorem d_O_select_40 : decode b_O_select 40 = .ok (.ifCond .eq 17, 3) := by decide +kernel
theorem d_O_select_43 : decode b_O_select 43 = .ok (.aload_n 0, 1) := by decide +kernel
theorem d_O_select_44 : decode b_O_select 44 = .ok (.iload 5, 2) := by decide +kernel
theorem d_O_select_46 : decode b_O_select 46 = .ok (.iload_n 2, 1) := by decide +kernel
theorem d_O_select_47 : decode b_O_select 47 = .ok (.iload_n 3, 1) := by decide +kernel
theorem d_O_select_48 : decode b_O_select 48 = .ok (.invokevirtual 139, 3) := by decide +kernel
theorem d_O_select_51 : decode b_O_select 51 = .ok (.ifCond .eq 6, 3) := by decide +kernel
theorem d_O_select_54 : decode b_O_select 54 = .ok (.iload 5, 2) := by decide +kernel
theorem d_O_select_56 : decode b_O_select 56 = .ok (.ireturn, 1) := by decide +kernel
theorem d_O_select_57 : decode b_O_select 57 = .ok (.iinc 5 (-1), 3) := by decide +kernel
theorem d_O_select_60 : decode b_O_select 60 = .ok (.goto (-33), 3) := by decide +kernel
theorem d_O_select_63 : decode b_O_select 63 = .ok (.aload_n 0, 1) := by decide +kernel
theorem d_O_select_64 : decode b_O_select 64 = .ok (.iload_n 1, 1) := by decide +kernel
theorem d_O_select_65 : decode b_O_select 65 = .ok (.iload_n 3, 1) := by decide +kernel
theorem d_O_select_66 : decode b_O_select 66 = .ok (.invokevirtual 178, 3) := by decide +kernel
theorem d_O_select_69 : decode b_O_select 69 = .ok (.ireturn, 1) := by decide +kernel
theorem d_O_runnable_0 : decode b_O_runnable 0 = .ok (.iload_n 1, 1) := by decide +kernel
theorem d_O_runnable_1 : decode b_O_runnable 1 = .ok (.ifCond .le 21, 3) := by decide +kernel
theorem d_O_runnable_4 : decode b_O_runnable 4 = .ok (.aload_n 0, 1) := by decide +kernel
theorem d_O_runnable_5 : decode b_O_runnable 5 = .ok (.getfield 23, 3) := by decide +kernel
theorem d_O_runnable_8 : decode b_O_runnable 8 = .ok (.iload_n 2, 1) := by decide +kernel
theorem d_O_runnable_9 : decode b_O_runnable 9 = .ok (.invokevirtual 203, 3) := by decide +kernel
theorem d_O_runnable_12 : decode b_O_runnable 12 = .ok (.iload_n 1, 1) := by decide +kernel
theorem d_O_runnable_13 : decode b_O_runnable 13 = .ok (.invokestatic 200, 3) := by decide +kernel
theorem d_O_runnable_16 : decode b_O_runnable 16 = .ok (.ifCond .eq 6, 3) := by decide +kernel
theorem d_O_runnable_19 : decode b_O_runnable 19 = .ok (.bipush (-7), 2) := by decide +kernel
theorem d_O_runnable_21 : decode b_O_runnable 21 = .ok (.ireturn, 1) := by decide +kernel
theorem d_O_runnable_22 : decode b_O_runnable 22 = .ok (.iload_n 1, 1) := by decide +kernel
theorem d_O_runnable_23 : decode b_O_runnable 23 = .ok (.ireturn, 1) := by decide +kernel
theorem d_O_invokeVirtual_0 : decode b_O_invokeVirtual 0 = .ok (.aload_n 0, 1) := by decide +kernel
theorem d_O_invokeVirtual_1 : decode b_O_invokeVirtual 1 = .ok (.iconst 0, 1) := by decide +kernel
theorem d_O_invokeVirtual_2 : decode b_O_invokeVirtual 2 = .ok (.iload_n 2, 1) := by decide +kernel
theorem d_O_invokeVirtual_3 : decode b_O_invokeVirtual 3 = .ok (.iload_n 1, 1) := by decide +kernel
theorem d_O_invokeVirtual_4 : decode b_O_invokeVirtual 4 = .ok (.iload_n 3, 1) := by decide +kernel
theorem d_O_invokeVirtual_5 : decode b_O_invokeVirtual 5 = .ok (.invokevirtual 106, 3) := by decide +kernel
theorem d_O_invokeVirtual_8 : decode b_O_invokeVirtual 8 = .ok (.istore 5, 2) := by decide +kernel
theorem d_O_invokeVirtual_10 : decode b_O_invokeVirtual 10 = .ok (.iload 5, 2) := by decide +kernel
theorem d_O_invokeVirtual_12 : decode b_O_invokeVirtual 12 = .ok (.ifCond .gt 6, 3) := by decide +kernel
theorem d_O_invokeVirtual_15 : decode b_O_invokeVirtual 15 = .ok (.iload 5, 2) := by decide +kernel
theorem d_O_invokeVirtual_17 : decode b_O_invokeVirtual 17 = .ok (.ireturn, 1) := by decide +kernel
theorem d_O_invokeVirtual_18 : decode b_O_invokeVirtual 18 = .ok (.aload_n 0, 1) := by decide +kernel
theorem d_O_invokeVirtual_19 : decode b_O_invokeVirtual 19 = .ok (.getfield 23, 3) := by decide +kernel
theorem d_O_invokeVirtual_22 : decode b_O_invokeVirtual 22 = .ok (.iload 5, 2) := by decide +kernel
theorem d_O_invokeVirtual_24 : decode b_O_invokeVirtual 24 = .ok (.iload_n 3, 1) := by decide +kernel
theorem d_O_invokeVirtual_25 : decode b_O_invokeVirtual 25 = .ok (.invokevirtual 110, 3) := by decide +kernel
theorem d_O_invokeVirtual_28 : decode b_O_invokeVirtual 28 = .ok (.ifCond .eq 6, 3) := by decide +kernel
theorem d_O_invokeVirtual_31 : decode b_O_invokeVirtual 31 = .ok (.bipush (-6), 2) := by decide +kernel
theorem d_O_invokeVirtual_33 : decode b_O_invokeVirtual 33 = .ok (.ireturn, 1) := by decide +kernel
theorem d_O_invokeVirtual_34 : decode b_O_invokeVirtual 34 = .ok (.aload_n 0, 1) := by decide +kernel
theorem d_O_invokeVirtual_35 : decode b_O_invokeVirtual 35 = .ok (.aload_n 0, 1) := by decide +kernel
theorem d_O_invokeVirtual_36 : decode b_O_invokeVirtual 36 = .ok (.iload 4, 2) := by decide +kernel
theorem d_O_invokeVirtual_38 : decode b_O_invokeVirtual 38 = .ok (.iload 5, 2) := by decide +kernel
theorem d_O_invokeVirtual_40 : decode b_O_invokeVirtual 40 = .ok (.iload_n 3, 1) := by decide +kernel
theorem d_O_invokeVirtual_41 : decode b_O_invokeVirtual 41 = .ok (.invokevirtual 218, 3) := by decide +kernel
theorem d_O_invokeVirtual_44 : decode b_O_invokeVirtual 44 = .ok (.iload_n 3, 1) := by decide +kernel
theorem d_O_invokeVirtual_45 : decode b_O_invokeVirtual 45 = .ok (.invokevirtual 221, 3) := by decide +kernel
theorem d_O_invokeVirtual_48 : decode b_O_invokeVirtual 48 = .ok (.ireturn, 1) := by decide +kernel
theorem d_O_invokeInterface_0 : decode b_O_invokeInterface 0 = .ok (.aload_n 0, 1) := by decide +kernel
theorem d_O_invokeInterface_1 : decode b_O_invokeInterface 1 = .ok (.iconst 1, 1) := by decide +kernel
theorem d_O_invokeInterface_2 : decode b_O_invokeInterface 2 = .ok (.iload_n 2, 1) := by decide +kernel
theorem d_O_invokeInterface_3 : decode b_O_invokeInterface 3 = .ok (.iload_n 1, 1) := by decide +kernel
theorem d_O_invokeInterface_4 : decode b_O_invokeInterface 4 = .ok (.iload_n 3, 1) := by decide +kernel
theorem d_O_invokeInterface_5 : decode b_O_invokeInterface 5 = .ok (.invokevirtual 106, 3) := by decide +kernel
theorem d_O_invokeInterface_8 : decode b_O_invokeInterface 8 = .ok (.istore 5, 2) := by decide +kernel
theorem d_O_invokeInterface_10 : decode b_O_invokeInterface 10 = .ok (.iload 5, 2) := by decide +kernel
theorem d_O_invokeInterface_12 : decode b_O_invokeInterface 12 = .ok (.ifCond .gt 6, 3) := by decide +kernel
theorem d_O_invokeInterface_15 : decode b_O_invokeInterface 15 = .ok (.iload 5, 2) := by decide +kernel
theorem d_O_invokeInterface_17 : decode b_O_invokeInterface 17 = .ok (.ireturn, 1) := by decide +kernel
theorem d_O_invokeInterface_18 : decode b_O_invokeInterface 18 = .ok (.aload_n 0, 1) := by decide +kernel
theorem d_O_invokeInterface_19 : decode b_O_invokeInterface 19 = .ok (.getfield 23, 3) := by decide +kernel
theorem d_O_invokeInterface_22 : decode b_O_invokeInterface 22 = .ok (.iload 5, 2) := by decide +kernel
theorem d_O_invokeInterface_24 : decode b_O_invokeInterface 24 = .ok (.iload_n 3, 1) := by decide +kernel
theorem d_O_invokeInterface_25 : decode b_O_invokeInterface 25 = .ok (.invokevirtual 110, 3) := by decide +kernel
theorem d_O_invokeInterface_28 : decode b_O_invokeInterface 28 = .ok (.ifCond .ne 17, 3) := by decide +kernel
theorem d_O_invokeInterface_31 : decode b_O_invokeInterface 31 = .ok (.aload_n 0, 1) := by decide +kernel
theorem d_O_invokeInterface_32 : decode b_O_invokeInterface 32 = .ok (.getfield 10, 3) := by decide +kernel
theorem d_O_invokeInterface_35 : decode b_O_invokeInterface 35 = .ok (.iload 4, 2) := by decide +kernel
theorem d_O_invokeInterface_37 : decode b_O_invokeInterface 37 = .ok (.iload 5, 2) := by decide +kernel
theorem d_O_invokeInterface_39 : decode b_O_invokeInterface 39 = .ok (.invokevirtual 130, 3) := by decide +kernel
theorem d_O_invokeInterface_42 : decode b_O_invokeInterface 42 = .ok (.ifCond .ne 6, 3) := by decide +kernel
theorem d_O_invokeInterface_45 : decode b_O_invokeInterface 45 = .ok (.bipush (-6), 2) := by decide +kernel
theorem d_O_invokeInterface_47 : decode b_O_invokeInterface 47 = .ok (.ireturn, 1) := by decide +kernel
theorem d_O_invokeInterface_48 : decode b_O_invokeInterface 48 = .ok (.aload_n 0, 1) := by decide +kernel
theorem d_O_invokeInterface_49 : decode b_O_invokeInterface 49 = .ok (.iload 4, 2) := by decide +kernel
theorem d_O_invokeInterface_51 : decode b_O_invokeInterface 51 = .ok (.iload 5, 2) := by decide +kernel
theorem d_O_invokeInterface_53 : decode b_O_invokeInterface 53 = .ok (.iload_n 3, 1) := by decide +kernel
theorem d_O_invokeInterface_54 : decode b_O_invokeInterface 54 = .ok (.invokevirtual 218, 3) := by decide +kernel
theorem d_O_invokeInterface_57 : decode b_O_invokeInterface 57 = .ok (.istore 6, 2) := by decide +kernel
theorem d_O_invokeInterface_59 : decode b_O_invokeInterface 59 = .ok (.iload 6, 2) := by decide +kernel
theorem d_O_invokeInterface_61 : decode b_O_invokeInterface 61 = .ok (.ifCond .gt 6, 3) := by decide +kernel
theorem d_O_invokeInterface_64 : decode b_O_invokeInterface 64 = .ok (.iload 6, 2) := by decide +kernel
theorem d_O_invokeInterface_66 : decode b_O_invokeInterface 66 = .ok (.ireturn, 1) := by decide +kernel
theorem d_O_invokeInterface_67 : decode b_O_invokeInterface 67 = .ok (.aload_n 0, 1) := by decide +kernel
theorem d_O_invokeInterface_68 : decode b_O_invokeInterface 68 = .ok (.getfield 23, 3) := by decide +kernel
theorem d_O_invokeInterface_71 : decode b_O_invokeInterface 71 = .ok (.iload 6, 2) := by decide +kernel
theorem d_O_invokeInterface_73 : decode b_O_invokeInterface 73 = .ok (.iload_n 3, 1) := by decide +kernel
theorem d_O_invokeInterface_74 : decode b_O_invokeInterface 74 = .ok (.invokevirtual 187, 3) := by decide +kernel
theorem d_O_invokeInterface_77 : decode b_O_invokeInterface 77 = .ok (.istore 7, 2) := by decide +kernel
theorem d_O_invokeInterface_79 : decode b_O_invokeInterface 79 = .ok (.iload 7, 2) := by decide +kernel
theorem d_O_invokeInterface_81 : decode b_O_invokeInterface 81 = .ok (.iconst 3, 1) := by decide +kernel
theorem d_O_invokeInterface_82 : decode b_O_invokeInterface 82 = .ok (.if_icmp .eq 11, 3) := by decide +kernel
theorem d_O_invokeInterface_85 : decode b_O_invokeInterface 85 = .ok (.iload 7, 2) := by decide +kernel
theorem d_O_invokeInterface_87 : decode b_O_invokeInterface 87 = .ok (.ifCond .eq 6, 3) := by decide +kernel
theorem d_O_invokeInterface_90 : decode b_O_invokeInterface 90 = .ok (.bipush (-5), 2) := by decide +kernel
theorem d_O_invokeInterface_92 : decode b_O_invokeInterface 92 = .ok (.ireturn, 1) := by decide +kernel
theorem d_O_invokeInterface_93 : decode b_O_invokeInterface 93 = .ok (.aload_n 0, 1) := by decide +kernel
theorem d_O_invokeInterface_94 : decode b_O_invokeInterface 94 = .ok (.iload 6, 2) := by decide +kernel
theorem d_O_invokeInterface_96 : decode b_O_invokeInterface 96 = .ok (.iload_n 3, 1) := by decide +kernel
theorem d_O_invokeInterface_97 : decode b_O_invokeInterface 97 = .ok (.invokevirtual 221, 3) := by decide +kernel
theorem d_O_invokeInterface_100 : decode b_O_invokeInterface 100 = .ok (.ireturn, 1) := by decide +kernel
theorem d_O_invokeSpecial_0 : decode b_O_invokeSpecial 0 = .ok (.aload_n 0, 1) := by decide +kernel
theorem d_O_invokeSpecial_1 : decode b_O_invokeSpecial 1 = .ok (.aload_n 0, 1) := by decide +kernel
theorem d_O_invokeSpecial_2 : decode b_O_invokeSpecial 2 = .ok (.getfield 10, 3) := by decide +kernel
theorem d_O_invokeSpecial_5 : decode b_O_invokeSpecial 5 = .ok (.iload_n 1, 1) := by decide +kernel
theorem d_O_invokeSpecial_6 : decode b_O_invokeSpecial 6 = .ok (.invokevirtual 52, 3) := by decide +kernel
theorem d_O_invokeSpecial_9 : decode b_O_invokeSpecial 9 = .ok (.iload_n 2, 1) := by decide +kernel
theorem d_O_invokeSpecial_10 : decode b_O_invokeSpecial 10 = .ok (.iload_n 1, 1) := by decide +kernel
theorem d_O_invokeSpecial_11 : decode b_O_invokeSpecial 11 = .ok (.iload_n 3, 1) := by decide +kernel
theorem d_O_invokeSpecial_12 : decode b_O_invokeSpecial 12 = .ok (.invokevirtual 106, 3) := by decide +kernel
theorem d_O_invokeSpecial_15 : decode b_O_invokeSpecial 15 = .ok (.istore 4, 2) := by decide +kernel
theorem d_O_invokeSpecial_17 : decode b_O_invokeSpecial 17 = .ok (.iload 4, 2) := by decide +kernel
theorem d_O_invokeSpecial_19 : decode b_O_invokeSpecial 19 = .ok (.ifCond .gt 6, 3) := by decide +kernel
theorem d_O_invokeSpecial_22 : decode b_O_invokeSpecial 22 = .ok (.iload 4, 2) := by decide +kernel
theorem d_O_invokeSpecial_24 : decode b_O_invokeSpecial 24 = .ok (.ireturn, 1) := by decide +kernel
theorem d_O_invokeSpecial_25 : decode b_O_invokeSpecial 25 = .ok (.aload_n 0, 1) := by decide +kernel
theorem d_O_invokeSpecial_26 : decode b_O_invokeSpecial 26 = .ok (.getfield 23, 3) := by decide +kernel
theorem d_O_invokeSpecial_29 : decode b_O_invokeSpecial 29 = .ok (.iload 4, 2) := by decide +kernel
theorem d_O_invokeSpecial_31 : decode b_O_invokeSpecial 31 = .ok (.iload_n 3, 1) := by decide +kernel
theorem d_O_invokeSpecial_32 : decode b_O_invokeSpecial 32 = .ok (.invokevirtual 110, 3) := by decide +kernel
theorem d_O_invokeSpecial_35 : decode b_O_invokeSpecial 35 = .ok (.ifCond .eq 6, 3) := by decide +kernel
theorem d_O_invokeSpecial_38 : decode b_O_invokeSpecial 38 = .ok (.bipush (-6), 2) := by decide +kernel
theorem d_O_invokeSpecial_40 : decode b_O_invokeSpecial 40 = .ok (.ireturn, 1) := by decide +kernel
theorem d_O_invokeSpecial_41 : decode b_O_invokeSpecial 41 = .ok (.aload_n 0, 1) := by decide +kernel
theorem d_O_invokeSpecial_42 : decode b_O_invokeSpecial 42 = .ok (.getfield 10, 3) := by decide +kernel
theorem d_O_invokeSpecial_45 : decode b_O_invokeSpecial 45 = .ok (.iload_n 1, 1) := by decide +kernel
theorem d_O_invokeSpecial_46 : decode b_O_invokeSpecial 46 = .ok (.invokevirtual 136, 3) := by decide +kernel
theorem d_O_invokeSpecial_49 : decode b_O_invokeSpecial 49 = .ok (.ifCond .eq 12, 3) := by decide +kernel
theorem d_O_invokeSpecial_52 : decode b_O_invokeSpecial 52 = .ok (.iload_n 1, 1) := by decide +kernel
theorem d_O_invokeSpecial_53 : decode b_O_invokeSpecial 53 = .ok (.iload_n 2, 1) := by decide +kernel
theorem d_O_invokeSpecial_54 : decode b_O_invokeSpecial 54 = .ok (.if_icmp .eq 7, 3) := by decide +kernel
theorem d_O_invokeSpecial_57 : decode b_O_invokeSpecial 57 = .ok (.iconst 1, 1) := by decide +kernel
theorem d_O_invokeSpecial_58 : decode b_O_invokeSpecial 58 = .ok (.goto 4, 3) := by decide +kernel
theorem d_O_invokeSpecial_61 : decode b_O_invokeSpecial 61 = .ok (.iconst 0, 1) := by decide +kernel
theorem d_O_invokeSpecial_62 : decode b_O_invokeSpecial 62 = .ok (.istore 5, 2) := by decide +kernel
theorem d_O_invokeSpecial_64 : decode b_O_invokeSpecial 64 = .ok (.iload 5, 2) := by decide +kernel
theorem d_O_invokeSpecial_66 : decode b_O_invokeSpecial 66 = .ok (.ifCond .eq 14, 3) := by decide +kernel
theorem d_O_invokeSpecial_69 : decode b_O_invokeSpecial 69 = .ok (.aload_n 0, 1) := by decide +kernel
theorem d_O_invokeSpecial_70 : decode b_O_invokeSpecial 70 = .ok (.getfield 10, 3) := by decide +kernel
theorem d_O_invokeSpecial_73 : decode b_O_invokeSpecial 73 = .ok (.iload_n 2, 1) := by decide +kernel
theorem d_O_invokeSpecial_74 : decode b_O_invokeSpecial 74 = .ok (.invokevirtual 146, 3) := by decide +kernel
theorem d_O_invokeSpecial_77 : decode b_O_invokeSpecial 77 = .ok (.goto 4, 3) := by decide +kernel
theorem d_O_invokeSpecial_80 : decode b_O_invokeSpecial 80 = .ok (.iload_n 1, 1) := by decide +kernel
theorem d_O_invokeSpecial_81 : decode b_O_invokeSpecial 81 = .ok (.istore 6, 2) := by decide +kernel
theorem d_O_invokeSpecial_83 : decode b_O_invokeSpecial 83 = .ok (.aload_n 0, 1) := by decide +kernel
theorem d_O_invokeSpecial_84 : decode b_O_invokeSpecial 84 = .ok (.getfield 10, 3) := by decide +kernel
theorem d_O_invokeSpecial_87 : decode b_O_invokeSpecial 87 = .ok (.iload 6, 2) := by decide +kernel
theorem d_O_invokeSpecial_89 : decode b_O_invokeSpecial 89 = .ok (.invokevirtual 172, 3) := by decide +kernel
theorem d_O_invokeSpecial_92 : decode b_O_invokeSpecial 92 = .ok (.aload_n 0, 1) := by decide +kernel
theorem d_O_invokeSpecial_93 : decode b_O_invokeSpecial 93 = .ok (.getfield 23, 3) := by decide +kernel
theorem d_O_invokeSpecial_96 : decode b_O_invokeSpecial 96 = .ok (.iload_n 3, 1) := by decide +kernel
theorem d_O_invokeSpecial_97 : decode b_O_invokeSpecial 97 = .ok (.invokevirtual 206, 3) := by decide +kernel
theorem d_O_invokeSpecial_100 : decode b_O_invokeSpecial 100 = .ok (.iand, 1) := by decide +kernel
theorem d_O_invokeSpecial_101 : decode b_O_invokeSpecial 101 = .ok (.invokestatic 175, 3) := by decide +kernel
theorem d_O_invokeSpecial_104 : decode b_O_invokeSpecial 104 = .ok (.istore 7, 2) := by decide +kernel
theorem d_O_invokeSpecial_106 : decode b_O_invokeSpecial 106 = .ok (.iload 7, 2) := by decide +kernel
theorem d_O_invokeSpecial_108 : decode b_O_invokeSpecial 108 = .ok (.ifCond .ne 12, 3) := by decide +kernel
theorem d_O_invokeSpecial_111 : decode b_O_invokeSpecial 111 = .ok (.aload_n 0, 1) := by decide +kernel
theorem d_O_invokeSpecial_112 : decode b_O_invokeSpecial 112 = .ok (.iload 6, 2) := by decide +kernel
theorem d_O_invokeSpecial_114 : decode b_O_invokeSpecial 114 = .ok (.iload_n 3, 1) := by decide +kernel
theorem d_O_invokeSpecial_115 : decode b_O_invokeSpecial 115 = .ok (.invokevirtual 178, 3) := by decide +kernel
theorem d_O_invokeSpecial_118 : decode b_O_invokeSpecial 118 = .ok (.istore 7, 2) := by decide +kernel
theorem d_O_invokeSpecial_120 : decode b_O_invokeSpecial 120 = .ok (.aload_n 0, 1) := by decide +kernel
theorem d_O_invokeSpecial_121 : decode b_O_invokeSpecial 121 = .ok (.iload 7, 2) := by decide +kernel
theorem d_O_invokeSpecial_123 : decode b_O_invokeSpecial 123 = .ok (.iload_n 3, 1) := by decide +kernel
theorem d_O_invokeSpecial_124 : decode b_O_invokeSpecial 124 = .ok (.invokevirtual 221, 3) := by decide +kernel
theorem d_O_invokeSpecial_127 : decode b_O_invokeSpecial 127 = .ok (.ireturn, 1) := by decide +kernel
theorem d_O_invokeStatic_0 : decode b_O_invokeStatic 0 = .ok (.aload_n 0, 1) := by decide +kernel
theorem d_O_invokeStatic_1 : decode b_O_invokeStatic 1 = .ok (.aload_n 0, 1) := by decide +kernel
theorem d_O_invokeStatic_2 : decode b_O_invokeStatic 2 = .ok (.getfield 10, 3) := by decide +kernel
theorem d_O_invokeStatic_5 : decode b_O_invokeStatic 5 = .ok (.iload_n 1, 1) := by decide +kernel
theorem d_O_invokeStatic_6 : decode b_O_invokeStatic 6 = .ok (.invokevirtual 52, 3) := by decide +kernel
theorem d_O_invokeStatic_9 : decode b_O_invokeStatic 9 = .ok (.iload_n 2, 1) := by decide +kernel
theorem d_O_invokeStatic_10 : decode b_O_invokeStatic 10 = .ok (.iload_n 1, 1) := by decide +kernel
theorem d_O_invokeStatic_11 : decode b_O_invokeStatic 11 = .ok (.iload_n 3, 1) := by decide +kernel
theorem d_O_invokeStatic_12 : decode b_O_invokeStatic 12 = .ok (.invokevirtual 106, 3) := by decide +kernel
theorem d_O_invokeStatic_15 : decode b_O_invokeStatic 15 = .ok (.istore 4, 2) := by decide +kernel
theorem d_O_invokeStatic_17 : decode b_O_invokeStatic 17 = .ok (.iload 4, 2) := by decide +kernel
theorem d_O_invokeStatic_19 : decode b_O_invokeStatic 19 = .ok (.ifCond .le 19, 3) := by decide +kernel
theorem d_O_invokeStatic_22 : decode b_O_invokeStatic 22 = .ok (.aload_n 0, 1) := by decide +kernel
theorem d_O_invokeStatic_23 : decode b_O_invokeStatic 23 = .ok (.getfield 23, 3) := by decide +kernel
theorem d_O_invokeStatic_26 : decode b_O_invokeStatic 26 = .ok (.iload 4, 2) := by decide +kernel
theorem d_O_invokeStatic_28 : decode b_O_invokeStatic 28 = .ok (.iload_n 3, 1) := by decide +kernel
theorem d_O_invokeStatic_29 : decode b_O_invokeStatic 29 = .ok (.invokevirtual 110, 3) := by decide +kernel
theorem d_O_invokeStatic_32 : decode b_O_invokeStatic 32 = .ok (.ifCond .ne 6, 3) := by decide +kernel
theorem d_O_invokeStatic_35 : decode b_O_invokeStatic 35 = .ok (.bipush (-6), 2) := by decide +kernel
theorem d_O_invokeStatic_37 : decode b_O_invokeStatic 37 = .ok (.ireturn, 1) := by decide +kernel
theorem d_O_invokeStatic_38 : decode b_O_invokeStatic 38 = .ok (.iload 4, 2) := by decide +kernel
theorem d_O_invokeStatic_40 : decode b_O_invokeStatic 40 = .ok (.ireturn, 1) := by decide +kernel
theorem d_O_holds_0 : decode b_O_holds 0 = .ok (.iload_n 0, 1) := by decide +kernel
theorem d_O_holds_1 : decode b_O_holds 1 = .ok (.iconst 1, 1) := by decide +kernel
theorem d_O_holds_2 : decode b_O_holds 2 = .ok (.iload_n 1, 1) := by decide +kernel
theorem d_O_holds_3 : decode b_O_holds 3 = .ok (.ishl, 1) := by decide +kernel
theorem d_O_holds_4 : decode b_O_holds 4 = .ok (.iand, 1) := by decide +kernel
theorem d_O_holds_5 : decode b_O_holds 5 = .ok (.ifCond .eq 7, 3) := by decide +kernel
theorem d_O_holds_8 : decode b_O_holds 8 = .ok (.iconst 1, 1) := by decide +kernel
theorem d_O_holds_9 : decode b_O_holds 9 = .ok (.goto 4, 3) := by decide +kernel
theorem d_O_holds_12 : decode b_O_holds 12 = .ok (.iconst 0, 1) := by decide +kernel
theorem d_O_holds_13 : decode b_O_holds 13 = .ok (.ireturn, 1) := by decide +kernel
theorem d_O_leastOf_0 : decode b_O_leastOf 0 = .ok (.iconst 1, 1) := by decide +kernel
theorem d_O_leastOf_1 : decode b_O_leastOf 1 = .ok (.istore_n 1, 1) := by decide +kernel
theorem d_O_leastOf_2 : decode b_O_leastOf 2 = .ok (.iload_n 1, 1) := by decide +kernel
theorem d_O_leastOf_3 : decode b_O_leastOf 3 = .ok (.bipush 12, 2) := by decide +kernel
theorem d_O_leastOf_5 : decode b_O_leastOf 5 = .ok (.if_icmp .gt 19, 3) := by decide +kernel
theorem d_O_leastOf_8 : decode b_O_leastOf 8 = .ok (.iload_n 0, 1) := by decide +kernel
theorem d_O_leastOf_9 : decode b_O_leastOf 9 = .ok (.iload_n 1, 1) := by decide +kernel
theorem d_O_leastOf_10 : decode b_O_leastOf 10 = .ok (.invokestatic 200, 3) := by decide +kernel
theorem d_O_leastOf_13 : decode b_O_leastOf 13 = .ok (.ifCond .eq 5, 3) := by decide +kernel
theorem d_O_leastOf_16 : decode b_O_leastOf 16 = .ok (.iload_n 1, 1) := by decide +kernel
theorem d_O_leastOf_17 : decode b_O_leastOf 17 = .ok (.ireturn, 1) := by decide +kernel
theorem d_O_leastOf_18 : decode b_O_leastOf 18 = .ok (.iinc 1 1, 3) := by decide +kernel
theorem d_O_leastOf_21 : decode b_O_leastOf 21 = .ok (.goto (-19), 3) := by decide +kernel
theorem d_O_leastOf_24 : decode b_O_leastOf 24 = .ok (.iconst 0, 1) := by decide +kernel
theorem d_O_leastOf_25 : decode b_O_leastOf 25 = .ok (.ireturn, 1) := by decide +kernel
theorem d_O_greatestOf_0 : decode b_O_greatestOf 0 = .ok (.bipush 12, 2) := by decide +kernel
theorem d_O_greatestOf_2 : decode b_O_greatestOf 2 = .ok (.istore_n 1, 1) := by decide +kernel
theorem d_O_greatestOf_3 : decode b_O_greatestOf 3 = .ok (.iload_n 1, 1) := by decide +kernel
theorem d_O_greatestOf_4 : decode b_O_greatestOf 4 = .ok (.iconst 1, 1) := by decide +kernel
theorem d_O_greatestOf_5 : decode b_O_greatestOf 5 = .ok (.if_icmp .lt 19, 3) := by decide +kernel
theorem d_O_greatestOf_8 : decode b_O_greatestOf 8 = .ok (.iload_n 0, 1) := by decide +kernel
theorem d_O_greatestOf_9 : decode b_O_greatestOf 9 = .ok (.iload_n 1, 1) := by decide +kernel
theorem d_O_greatestOf_10 : decode b_O_greatestOf 10 = .ok (.invokestatic 200, 3) := by decide +kernel
theorem d_O_greatestOf_13 : decode b_O_greatestOf 13 = .ok (.ifCond .eq 5, 3) := by decide +kernel
theorem d_O_greatestOf_16 : decode b_O_greatestOf 16 = .ok (.iload_n 1, 1) := by decide +kernel
theorem d_O_greatestOf_17 : decode b_O_greatestOf 17 = .ok (.ireturn, 1) := by decide +kernel
theorem d_O_greatestOf_18 : decode b_O_greatestOf 18 = .ok (.iinc 1 (-1), 3) := by decide +kernel
theorem d_O_greatestOf_21 : decode b_O_greatestOf 21 = .ok (.goto (-18), 3) := by decide +kernel
theorem d_O_greatestOf_24 : decode b_O_greatestOf 24 = .ok (.iconst 0, 1) := by decide +kernel
theorem d_O_greatestOf_25 : decode b_O_greatestOf 25 = .ok (.ireturn, 1) := by decide +kernel
