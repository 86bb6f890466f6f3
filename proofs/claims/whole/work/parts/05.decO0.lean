theorem d_O_init_0 : decode b_O_init 0 = .ok (.aload_n 0, 1) := by decide +kernel
theorem d_O_init_1 : decode b_O_init 1 = .ok (.invokespecial 1, 3) := by decide +kernel
theorem d_O_init_4 : decode b_O_init 4 = .ok (.aload_n 0, 1) := by decide +kernel
theorem d_O_init_5 : decode b_O_init 5 = .ok (.new 7, 3) := by decide +kernel
theorem d_O_init_8 : decode b_O_init 8 = .ok (.dup, 1) := by decide +kernel
theorem d_O_init_9 : decode b_O_init 9 = .ok (.invokespecial 9, 3) := by decide +kernel
theorem d_O_init_12 : decode b_O_init 12 = .ok (.putfield 10, 3) := by decide +kernel
theorem d_O_init_15 : decode b_O_init 15 = .ok (.aload_n 0, 1) := by decide +kernel
theorem d_O_init_16 : decode b_O_init 16 = .ok (.new 16, 3) := by decide +kernel
theorem d_O_init_19 : decode b_O_init 19 = .ok (.dup, 1) := by decide +kernel
theorem d_O_init_20 : decode b_O_init 20 = .ok (.invokespecial 18, 3) := by decide +kernel
theorem d_O_init_23 : decode b_O_init 23 = .ok (.putfield 19, 3) := by decide +kernel
theorem d_O_init_26 : decode b_O_init 26 = .ok (.aload_n 0, 1) := by decide +kernel
theorem d_O_init_27 : decode b_O_init 27 = .ok (.new 16, 3) := by decide +kernel
theorem d_O_init_30 : decode b_O_init 30 = .ok (.dup, 1) := by decide +kernel
theorem d_O_init_31 : decode b_O_init 31 = .ok (.invokespecial 18, 3) := by decide +kernel
theorem d_O_init_34 : decode b_O_init 34 = .ok (.putfield 23, 3) := by decide +kernel
theorem d_O_init_37 : decode b_O_init 37 = .ok (.aload_n 0, 1) := by decide +kernel
theorem d_O_init_38 : decode b_O_init 38 = .ok (.iconst 0, 1) := by decide +kernel
theorem d_O_init_39 : decode b_O_init 39 = .ok (.putfield 26, 3) := by decide +kernel
theorem d_O_init_42 : decode b_O_init 42 = .ok (.return_, 1) := by decide +kernel
theorem d_O_tellClass_0 : decode b_O_tellClass 0 = .ok (.iload_n 2, 1) := by decide +kernel
theorem d_O_tellClass_1 : decode b_O_tellClass 1 = .ok (.invokestatic 30, 3) := by decide +kernel
theorem d_O_tellClass_4 : decode b_O_tellClass 4 = .ok (.ifCond .ne 5, 3) := by decide +kernel
theorem d_O_tellClass_7 : decode b_O_tellClass 7 = .ok (.iconst (-1), 1) := by decide +kernel
theorem d_O_tellClass_8 : decode b_O_tellClass 8 = .ok (.ireturn, 1) := by decide +kernel
theorem d_O_tellClass_9 : decode b_O_tellClass 9 = .ok (.iload_n 1, 1) := by decide +kernel
theorem d_O_tellClass_10 : decode b_O_tellClass 10 = .ok (.ifCond .eq 16, 3) := by decide +kernel
theorem d_O_tellClass_13 : decode b_O_tellClass 13 = .ok (.aload_n 0, 1) := by decide +kernel
theorem d_O_tellClass_14 : decode b_O_tellClass 14 = .ok (.getfield 10, 3) := by decide +kernel
theorem d_O_tellClass_17 : decode b_O_tellClass 17 = .ok (.iload_n 1, 1) := by decide +kernel
theorem d_O_tellClass_18 : decode b_O_tellClass 18 = .ok (.invokevirtual 34, 3) := by decide +kernel
theorem d_O_tellClass_21 : decode b_O_tellClass 21 = .ok (.ifCond .ne 5, 3) := by decide +kernel
theorem d_O_tellClass_24 : decode b_O_tellClass 24 = .ok (.iconst (-1), 1) := by decide +kernel
theorem d_O_tellClass_25 : decode b_O_tellClass 25 = .ok (.ireturn, 1) := by decide +kernel
theorem d_O_tellClass_26 : decode b_O_tellClass 26 = .ok (.aload_n 0, 1) := by decide +kernel
theorem d_O_tellClass_27 : decode b_O_tellClass 27 = .ok (.getfield 10, 3) := by decide +kernel
theorem d_O_tellClass_30 : decode b_O_tellClass 30 = .ok (.invokevirtual 37, 3) := by decide +kernel
theorem d_O_tellClass_33 : decode b_O_tellClass 33 = .ok (.ifCond .eq 6, 3) := by decide +kernel
theorem d_O_tellClass_36 : decode b_O_tellClass 36 = .ok (.bipush (-2), 2) := by decide +kernel
theorem d_O_tellClass_38 : decode b_O_tellClass 38 = .ok (.ireturn, 1) := by decide +kernel
theorem d_O_tellClass_39 : decode b_O_tellClass 39 = .ok (.aload_n 0, 1) := by decide +kernel
theorem d_O_tellClass_40 : decode b_O_tellClass 40 = .ok (.getfield 10, 3) := by decide +kernel
theorem d_O_tellClass_43 : decode b_O_tellClass 43 = .ok (.iload_n 1, 1) := by decide +kernel
theorem d_O_tellClass_44 : decode b_O_tellClass 44 = .ok (.iload_n 2, 1) := by decide +kernel
theorem d_O_tellClass_45 : decode b_O_tellClass 45 = .ok (.iload_n 3, 1) := by decide +kernel
theorem d_O_tellClass_46 : decode b_O_tellClass 46 = .ok (.iload 4, 2) := by decide +kernel
theorem d_O_tellClass_48 : decode b_O_tellClass 48 = .ok (.invokevirtual 41, 3) := by decide +kernel
theorem d_O_tellClass_51 : decode b_O_tellClass 51 = .ok (.ireturn, 1) := by decide +kernel
theorem d_O_tellInterface_0 : decode b_O_tellInterface 0 = .ok (.iload_n 1, 1) := by decide +kernel
theorem d_O_tellInterface_1 : decode b_O_tellInterface 1 = .ok (.invokestatic 30, 3) := by decide +kernel
theorem d_O_tellInterface_4 : decode b_O_tellInterface 4 = .ok (.ifCond .ne 5, 3) := by decide +kernel
theorem d_O_tellInterface_7 : decode b_O_tellInterface 7 = .ok (.iconst (-1), 1) := by decide +kernel
theorem d_O_tellInterface_8 : decode b_O_tellInterface 8 = .ok (.ireturn, 1) := by decide +kernel
theorem d_O_tellInterface_9 : decode b_O_tellInterface 9 = .ok (.aload_n 0, 1) := by decide +kernel
theorem d_O_tellInterface_10 : decode b_O_tellInterface 10 = .ok (.getfield 10, 3) := by decide +kernel
theorem d_O_tellInterface_13 : decode b_O_tellInterface 13 = .ok (.invokevirtual 37, 3) := by decide +kernel
theorem d_O_tellInterface_16 : decode b_O_tellInterface 16 = .ok (.ifCond .eq 6, 3) := by decide +kernel
theorem d_O_tellInterface_19 : decode b_O_tellInterface 19 = .ok (.bipush (-2), 2) := by decide +kernel
theorem d_O_tellInterface_21 : decode b_O_tellInterface 21 = .ok (.ireturn, 1) := by decide +kernel
theorem d_O_tellInterface_22 : decode b_O_tellInterface 22 = .ok (.aload_n 0, 1) := by decide +kernel
theorem d_O_tellInterface_23 : decode b_O_tellInterface 23 = .ok (.getfield 10, 3) := by decide +kernel
theorem d_O_tellInterface_26 : decode b_O_tellInterface 26 = .ok (.iload_n 1, 1) := by decide +kernel
theorem d_O_tellInterface_27 : decode b_O_tellInterface 27 = .ok (.iload_n 2, 1) := by decide +kernel
theorem d_O_tellInterface_28 : decode b_O_tellInterface 28 = .ok (.invokevirtual 45, 3) := by decide +kernel
theorem d_O_tellInterface_31 : decode b_O_tellInterface 31 = .ok (.ireturn, 1) := by decide +kernel
theorem d_O_implement_0 : decode b_O_implement 0 = .ok (.aload_n 0, 1) := by decide +kernel
theorem d_O_implement_1 : decode b_O_implement 1 = .ok (.getfield 10, 3) := by decide +kernel
theorem d_O_implement_4 : decode b_O_implement 4 = .ok (.iload_n 1, 1) := by decide +kernel
theorem d_O_implement_5 : decode b_O_implement 5 = .ok (.invokevirtual 49, 3) := by decide +kernel
theorem d_O_implement_8 : decode b_O_implement 8 = .ok (.ifCond .eq 19, 3) := by decide +kernel
theorem d_O_implement_11 : decode b_O_implement 11 = .ok (.aload_n 0, 1) := by decide +kernel
theorem d_O_implement_12 : decode b_O_implement 12 = .ok (.getfield 10, 3) := by decide +kernel
theorem d_O_implement_15 : decode b_O_implement 15 = .ok (.iload_n 2, 1) := by decide +kernel
theorem d_O_implement_16 : decode b_O_implement 16 = .ok (.invokevirtual 52, 3) := by decide +kernel
theorem d_O_implement_19 : decode b_O_implement 19 = .ok (.ifCond .eq 8, 3) := by decide +kernel
theorem d_O_implement_22 : decode b_O_implement 22 = .ok (.iload_n 2, 1) := by decide +kernel
theorem d_O_implement_23 : decode b_O_implement 23 = .ok (.iload_n 1, 1) := by decide +kernel
theorem d_O_implement_24 : decode b_O_implement 24 = .ok (.if_icmp .lt 5, 3) := by decide +kernel
theorem d_O_implement_27 : decode b_O_implement 27 = .ok (.iconst (-1), 1) := by decide +kernel
theorem d_O_implement_28 : decode b_O_implement 28 = .ok (.ireturn, 1) := by decide +kernel
theorem d_O_implement_29 : decode b_O_implement 29 = .ok (.aload_n 0, 1) := by decide +kernel
theorem d_O_implement_30 : decode b_O_implement 30 = .ok (.getfield 10, 3) := by decide +kernel
theorem d_O_implement_33 : decode b_O_implement 33 = .ok (.iload_n 1, 1) := by decide +kernel
theorem d_O_implement_34 : decode b_O_implement 34 = .ok (.iload_n 2, 1) := by decide +kernel
theorem d_O_implement_35 : decode b_O_implement 35 = .ok (.invokevirtual 55, 3) := by decide +kernel
theorem d_O_implement_38 : decode b_O_implement 38 = .ok (.ifCond .eq 5, 3) := by decide +kernel
theorem d_O_implement_41 : decode b_O_implement 41 = .ok (.iconst (-1), 1) := by decide +kernel
theorem d_O_implement_42 : decode b_O_implement 42 = .ok (.ireturn, 1) := by decide +kernel
theorem d_O_implement_43 : decode b_O_implement 43 = .ok (.aload_n 0, 1) := by decide +kernel
theorem d_O_implement_44 : decode b_O_implement 44 = .ok (.getfield 10, 3) := by decide +kernel
theorem d_O_implement_47 : decode b_O_implement 47 = .ok (.iload_n 1, 1) := by decide +kernel
theorem d_O_implement_48 : decode b_O_implement 48 = .ok (.invokevirtual 59, 3) := by decide +kernel
theorem d_O_implement_51 : decode b_O_implement 51 = .ok (.iconst 4, 1) := by decide +kernel
theorem d_O_implement_52 : decode b_O_implement 52 = .ok (.if_icmp .lt 6, 3) := by decide +kernel
theorem d_O_implement_55 : decode b_O_implement 55 = .ok (.bipush (-2), 2) := by decide +kernel
theorem d_O_implement_57 : decode b_O_implement 57 = .ok (.ireturn, 1) := by decide +kernel
theorem d_O_implement_58 : decode b_O_implement 58 = .ok (.aload_n 0, 1) := by decide +kernel
theorem d_O_implement_59 : decode b_O_implement 59 = .ok (.getfield 10, 3) := by decide +kernel
theorem d_O_implement_62 : decode b_O_implement 62 = .ok (.iload_n 1, 1) := by decide +kernel
theorem d_O_implement_63 : decode b_O_implement 63 = .ok (.iload_n 2, 1) := by decide +kernel
theorem d_O_implement_64 : decode b_O_implement 64 = .ok (.invokevirtual 63, 3) := by decide +kernel
theorem d_O_implement_67 : decode b_O_implement 67 = .ok (.ireturn, 1) := by decide +kernel
theorem d_O_nest_0 : decode b_O_nest 0 = .ok (.aload_n 0, 1) := by decide +kernel
theorem d_O_nest_1 : decode b_O_nest 1 = .ok (.getfield 10, 3) := by decide +kernel
theorem d_O_nest_4 : decode b_O_nest 4 = .ok (.iload_n 1, 1) := by decide +kernel
theorem d_O_nest_5 : decode b_O_nest 5 = .ok (.invokevirtual 49, 3) := by decide +kernel
theorem d_O_nest_8 : decode b_O_nest 8 = .ok (.ifCond .eq 19, 3) := by decide +kernel
theorem d_O_nest_11 : decode b_O_nest 11 = .ok (.aload_n 0, 1) := by decide +kernel
theorem d_O_nest_12 : decode b_O_nest 12 = .ok (.getfield 10, 3) := by decide +kernel
theorem d_O_nest_15 : decode b_O_nest 15 = .ok (.iload_n 2, 1) := by decide +kernel
theorem d_O_nest_16 : decode b_O_nest 16 = .ok (.invokevirtual 49, 3) := by decide +kernel
theorem d_O_nest_19 : decode b_O_nest 19 = .ok (.ifCond .eq 8, 3) := by decide +kernel
theorem d_O_nest_22 : decode b_O_nest 22 = .ok (.iload_n 2, 1) := by decide +kernel
theorem d_O_nest_23 : decode b_O_nest 23 = .ok (.iload_n 1, 1) := by decide +kernel
theorem d_O_nest_24 : decode b_O_nest 24 = .ok (.if_icmp .le 5, 3) := by decide +kernel
theorem d_O_nest_27 : decode b_O_nest 27 = .ok (.iconst (-1), 1) := by decide +kernel
theorem d_O_nest_28 : decode b_O_nest 28 = .ok (.ireturn, 1) := by decide +kernel
theorem d_O_nest_29 : decode b_O_nest 29 = .ok (.aload_n 0, 1) := by decide +kernel
theorem d_O_nest_30 : decode b_O_nest 30 = .ok (.getfield 10, 3) := by decide +kernel
theorem d_O_nest_33 : decode b_O_nest 33 = .ok (.iload_n 1, 1) := by decide +kernel
theorem d_O_nest_34 : decode b_O_nest 34 = .ok (.iload_n 2, 1) := by decide +kernel
theorem d_O_nest_35 : decode b_O_nest 35 = .ok (.invokevirtual 67, 3) := by decide +kernel
theorem d_O_nest_38 : decode b_O_nest 38 = .ok (.ifCond .eq 26, 3) := by decide +kernel
theorem d_O_nest_41 : decode b_O_nest 41 = .ok (.aload_n 0, 1) := by decide +kernel
theorem d_O_nest_42 : decode b_O_nest 42 = .ok (.getfield 10, 3) := by decide +kernel
theorem d_O_nest_45 : decode b_O_nest 45 = .ok (.iload_n 2, 1) := by decide +kernel
theorem d_O_nest_46 : decode b_O_nest 46 = .ok (.invokevirtual 70, 3) := by decide +kernel
theorem d_O_nest_49 : decode b_O_nest 49 = .ok (.iload_n 2, 1) := by decide +kernel
theorem d_O_nest_50 : decode b_O_nest 50 = .ok (.if_icmp .ne 14, 3) := by decide +kernel
theorem d_O_nest_53 : decode b_O_nest 53 = .ok (.aload_n 0, 1) := by decide +kernel
theorem d_O_nest_54 : decode b_O_nest 54 = .ok (.getfield 10, 3) := by decide +kernel
theorem d_O_nest_57 : decode b_O_nest 57 = .ok (.iload_n 1, 1) := by decide +kernel
theorem d_O_nest_58 : decode b_O_nest 58 = .ok (.invokevirtual 73, 3) := by decide +kernel
theorem d_O_nest_61 : decode b_O_nest 61 = .ok (.ifCond .eq 5, 3) := by decide +kernel
theorem d_O_nest_64 : decode b_O_nest 64 = .ok (.iconst (-1), 1) := by decide +kernel
theorem d_O_nest_65 : decode b_O_nest 65 = .ok (.ireturn, 1) := by decide +kernel
theorem d_O_nest_66 : decode b_O_nest 66 = .ok (.aload_n 0, 1) := by decide +kernel
theorem d_O_nest_67 : decode b_O_nest 67 = .ok (.getfield 10, 3) := by decide +kernel
theorem d_O_nest_70 : decode b_O_nest 70 = .ok (.iload_n 1, 1) := by decide +kernel
theorem d_O_nest_71 : decode b_O_nest 71 = .ok (.iload_n 2, 1) := by decide +kernel
theorem d_O_nest_72 : decode b_O_nest 72 = .ok (.invokevirtual 76, 3) := by decide +kernel
theorem d_O_nest_75 : decode b_O_nest 75 = .ok (.iconst 0, 1) := by decide +kernel
theorem d_O_nest_76 : decode b_O_nest 76 = .ok (.ireturn, 1) := by decide +kernel
theorem d_O_field_0 : decode b_O_field 0 = .ok (.aload_n 0, 1) := by decide +kernel
theorem d_O_field_1 : decode b_O_field 1 = .ok (.getfield 10, 3) := by decide +kernel
theorem d_O_field_4 : decode b_O_field 4 = .ok (.iload_n 1, 1) := by decide +kernel
theorem d_O_field_5 : decode b_O_field 5 = .ok (.invokevirtual 49, 3) := by decide +kernel
theorem d_O_field_8 : decode b_O_field 8 = .ok (.ifCond .eq 17, 3) := by decide +kernel
theorem d_O_field_11 : decode b_O_field 11 = .ok (.iload_n 2, 1) := by decide +kernel
theorem d_O_field_12 : decode b_O_field 12 = .ok (.invokestatic 80, 3) := by decide +kernel
theorem d_O_field_15 : decode b_O_field 15 = .ok (.ifCond .eq 10, 3) := by decide +kernel
theorem d_O_field_18 : decode b_O_field 18 = .ok (.iload_n 3, 1) := by decide +kernel
theorem d_O_field_19 : decode b_O_field 19 = .ok (.invokestatic 83, 3) := by decide +kernel
theorem d_O_field_22 : decode b_O_field 22 = .ok (.ifCond .ne 5, 3) := by decide +kernel
theorem d_O_field_25 : decode b_O_field 25 = .ok (.iconst (-1), 1) := by decide +kernel
theorem d_O_field_26 : decode b_O_field 26 = .ok (.ireturn, 1) := by decide +kernel
theorem d_O_field_27 : decode b_O_field 27 = .ok (.aload_n 0, 1) := by decide +kernel
theorem d_O_field_28 : decode b_O_field 28 = .ok (.getfield 10, 3) := by decide +kernel
theorem d_O_field_31 : decode b_O_field 31 = .ok (.iload_n 1, 1) := by decide +kernel
theorem d_O_field_32 : decode b_O_field 32 = .ok (.invokevirtual 52, 3) := by decide +kernel
theorem d_O_field_35 : decode b_O_field 35 = .ok (.ifCond .eq 15, 3) := by decide +kernel
theorem d_O_field_38 : decode b_O_field 38 = .ok (.iload_n 3, 1) := by decide +kernel
theorem d_O_field_39 : decode b_O_field 39 = .ok (.iconst 3, 1) := by decide +kernel
theorem d_O_field_40 : decode b_O_field 40 = .ok (.if_icmp .ne 8, 3) := by decide +kernel
theorem d_O_field_43 : decode b_O_field 43 = .ok (.iload 4, 2) := by decide +kernel
theorem d_O_field_45 : decode b_O_field 45 = .ok (.ifCond .ne 5, 3) := by decide +kernel
theorem d_O_field_48 : decode b_O_field 48 = .ok (.iconst (-1), 1) := by decide +kernel
theorem d_O_field_49 : decode b_O_field 49 = .ok (.ireturn, 1) := by decide +kernel
theorem d_O_field_50 : decode b_O_field 50 = .ok (.aload_n 0, 1) := by decide +kernel
theorem d_O_field_51 : decode b_O_field 51 = .ok (.getfield 19, 3) := by decide +kernel
theorem d_O_field_54 : decode b_O_field 54 = .ok (.iload_n 1, 1) := by decide +kernel
theorem d_O_field_55 : decode b_O_field 55 = .ok (.iload_n 2, 1) := by decide +kernel
theorem d_O_field_56 : decode b_O_field 56 = .ok (.iload_n 3, 1) := by decide +kernel
theorem d_O_field_57 : decode b_O_field 57 = .ok (.iload 4, 2) := by decide +kernel
theorem d_O_field_59 : decode b_O_field 59 = .ok (.ifCond .eq 7, 3) := by decide +kernel
theorem d_O_field_62 : decode b_O_field 62 = .ok (.iconst 1, 1) := by decide +kernel
theorem d_O_field_63 : decode b_O_field 63 = .ok (.goto 4, 3) := by decide +kernel
theorem d_O_field_66 : decode b_O_field 66 = .ok (.iconst 0, 1) := by decide +kernel
theorem d_O_field_67 : decode b_O_field 67 = .ok (.invokevirtual 86, 3) := by decide +kernel
theorem d_O_field_70 : decode b_O_field 70 = .ok (.iconst 0, 1) := by decide +kernel
theorem d_O_field_71 : decode b_O_field 71 = .ok (.ireturn, 1) := by decide +kernel
theorem d_O_method_0 : decode b_O_method 0 = .ok (.aload_n 0, 1) := by decide +kernel
theorem d_O_method_1 : decode b_O_method 1 = .ok (.getfield 10, 3) := by decide +kernel
theorem d_O_method_4 : decode b_O_method 4 = .ok (.iload_n 1, 1) := by decide +kernel
theorem d_O_method_5 : decode b_O_method 5 = .ok (.invokevirtual 49, 3) := by decide +kernel
theorem d_O_method_8 : decode b_O_method 8 = .ok (.ifCond .eq 25, 3) := by decide +kernel
theorem d_O_method_11 : decode b_O_method 11 = .ok (.iload_n 2, 1) := by decide +kernel
theorem d_O_method_12 : decode b_O_method 12 = .ok (.invokestatic 80, 3) := by decide +kernel
theorem d_O_method_15 : decode b_O_method 15 = .ok (.ifCond .eq 18, 3) := by decide +kernel
theorem d_O_method_18 : decode b_O_method 18 = .ok (.iload_n 3, 1) := by decide +kernel
theorem d_O_method_19 : decode b_O_method 19 = .ok (.invokestatic 83, 3) := by decide +kernel
theorem d_O_method_22 : decode b_O_method 22 = .ok (.ifCond .eq 11, 3) := by decide +kernel
theorem d_O_method_25 : decode b_O_method 25 = .ok (.iload 4, 2) := by decide +kernel
theorem d_O_method_27 : decode b_O_method 27 = .ok (.invokestatic 90, 3) := by decide +kernel
theorem d_O_method_30 : decode b_O_method 30 = .ok (.ifCond .ne 5, 3) := by decide +kernel
theorem d_O_method_33 : decode b_O_method 33 = .ok (.iconst (-1), 1) := by decide +kernel
theorem d_O_method_34 : decode b_O_method 34 = .ok (.ireturn, 1) := by decide +kernel
theorem d_O_method_35 : decode b_O_method 35 = .ok (.aload_n 0, 1) := by decide +kernel
theorem d_O_method_36 : decode b_O_method 36 = .ok (.getfield 10, 3) := by decide +kernel
theorem d_O_method_39 : decode b_O_method 39 = .ok (.iload_n 1, 1) := by decide +kernel
theorem d_O_method_40 : decode b_O_method 40 = .ok (.invokevirtual 52, 3) := by decide +kernel
theorem d_O_method_43 : decode b_O_method 43 = .ok (.ifCond .eq 14, 3) := by decide +kernel
theorem d_O_method_46 : decode b_O_method 46 = .ok (.iload_n 3, 1) := by decide +kernel
theorem d_O_method_47 : decode b_O_method 47 = .ok (.iconst 3, 1) := by decide +kernel
theorem d_O_method_48 : decode b_O_method 48 = .ok (.if_icmp .eq 9, 3) := by decide +kernel
theorem d_O_method_51 : decode b_O_method 51 = .ok (.iload_n 3, 1) := by decide +kernel
theorem d_O_method_52 : decode b_O_method 52 = .ok (.ifCond .eq 5, 3) := by decide +kernel
theorem d_O_method_55 : decode b_O_method 55 = .ok (.iconst (-1), 1) := by decide +kernel
theorem d_O_method_56 : decode b_O_method 56 = .ok (.ireturn, 1) := by decide +kernel
theorem d_O_method_57 : decode b_O_method 57 = .ok (.iload 4, 2) := by decide +kernel
theorem d_O_method_59 : decode b_O_method 59 = .ok (.iconst 2, 1) := by decide +kernel
theorem d_O_method_60 : decode b_O_method 60 = .ok (.if_icmp .ne 9, 3) := by decide +kernel
theorem d_O_method_63 : decode b_O_method 63 = .ok (.iload_n 3, 1) := by decide +kernel
theorem d_O_method_64 : decode b_O_method 64 = .ok (.ifCond .ne 5, 3) := by decide +kernel
theorem d_O_method_67 : decode b_O_method 67 = .ok (.iconst (-1), 1) := by decide +kernel
theorem d_O_method_68 : decode b_O_method 68 = .ok (.ireturn, 1) := by decide +kernel
theorem d_O_method_69 : decode b_O_method 69 = .ok (.aload_n 0, 1) := by decide +kernel
theorem d_O_method_70 : decode b_O_method 70 = .ok (.getfield 23, 3) := by decide +kernel
theorem d_O_method_73 : decode b_O_method 73 = .ok (.iload_n 1, 1) := by decide +kernel
theorem d_O_method_74 : decode b_O_method 74 = .ok (.iload_n 2, 1) := by decide +kernel
theorem d_O_method_75 : decode b_O_method 75 = .ok (.iload_n 3, 1) := by decide +kernel
theorem d_O_method_76 : decode b_O_method 76 = .ok (.iload 4, 2) := by decide +kernel
theorem d_O_method_78 : decode b_O_method 78 = .ok (.invokevirtual 86, 3) := by decide +kernel
theorem d_O_method_81 : decode b_O_method 81 = .ok (.iconst 0, 1) := by decide +kernel
theorem d_O_method_82 : decode b_O_method 82 = .ok (.ireturn, 1) := by decide +kernel
theorem d_O_untell_0 : decode b_O_untell 0 = .ok (.aload_n 0, 1) := by decide +kernel
theorem d_O_untell_1 : decode b_O_untell 1 = .ok (.getfield 10, 3) := by decide +kernel
theorem d_O_untell_4 : decode b_O_untell 4 = .ok (.iload_n 1, 1) := by decide +kernel
theorem d_O_untell_5 : decode b_O_untell 5 = .ok (.invokevirtual 49, 3) := by decide +kernel
theorem d_O_untell_8 : decode b_O_untell 8 = .ok (.ifCond .eq 10, 3) := by decide +kernel
theorem d_O_untell_11 : decode b_O_untell 11 = .ok (.iload_n 3, 1) := by decide +kernel
theorem d_O_untell_12 : decode b_O_untell 12 = .ok (.invokestatic 80, 3) := by decide +kernel
theorem d_O_untell_15 : decode b_O_untell 15 = .ok (.ifCond .ne 5, 3) := by decide +kernel
theorem d_O_untell_18 : decode b_O_untell 18 = .ok (.iconst (-1), 1) := by decide +kernel
theorem d_O_untell_19 : decode b_O_untell 19 = .ok (.ireturn, 1) := by decide +kernel
theorem d_O_untell_20 : decode b_O_untell 20 = .ok (.iload_n 2, 1) := by decide +kernel
theorem d_O_untell_21 : decode b_O_untell 21 = .ok (.ifCond .eq 10, 3) := by decide +kernel
theorem d_O_untell_24 : decode b_O_untell 24 = .ok (.iload_n 2, 1) := by decide +kernel
theorem d_O_untell_25 : decode b_O_untell 25 = .ok (.iconst 1, 1) := by decide +kernel
theorem d_O_untell_26 : decode b_O_untell 26 = .ok (.if_icmp .eq 5, 3) := by decide +kernel
theorem d_O_untell_29 : decode b_O_untell 29 = .ok (.iconst (-1), 1) := by decide +kernel
theorem d_O_untell_30 : decode b_O_untell 30 = .ok (.ireturn, 1) := by decide +kernel
theorem d_O_untell_31 : decode b_O_untell 31 = .ok (.iload_n 2, 1) := by decide +kernel
theorem d_O_untell_32 : decode b_O_untell 32 = .ok (.ifCond .ne 10, 3) := by decide +kernel
theorem d_O_untell_35 : decode b_O_untell 35 = .ok (.aload_n 0, 1) := by decide +kernel
theorem d_O_untell_36 : decode b_O_untell 36 = .ok (.getfield 19, 3) := by decide +kernel
theorem d_O_untell_39 : decode b_O_untell 39 = .ok (.goto 7, 3) := by decide +kernel
theorem d_O_untell_42 : decode b_O_untell 42 = .ok (.aload_n 0, 1) := by decide +kernel
theorem d_O_untell_43 : decode b_O_untell 43 = .ok (.getfield 23, 3) := by decide +kernel
theorem d_O_untell_46 : decode b_O_untell 46 = .ok (.astore 4, 2) := by decide +kernel
theorem d_O_untell_48 : decode b_O_untell 48 = .ok (.aload 4, 2) := by decide +kernel
theorem d_O_untell_50 : decode b_O_untell 50 = .ok (.iload_n 1, 1) := by decide +kernel
theorem d_O_untell_51 : decode b_O_untell 51 = .ok (.iload_n 3, 1) := by decide +kernel
theorem d_O_untell_52 : decode b_O_untell 52 = .ok (.invokevirtual 93, 3) := by decide +kernel
theorem d_O_untell_55 : decode b_O_untell 55 = .ok (.ifCond .ne 5, 3) := by decide +kernel
theorem d_O_untell_58 : decode b_O_untell 58 = .ok (.iconst (-1), 1) := by decide +kernel
theorem d_O_untell_59 : decode b_O_untell 59 = .ok (.ireturn, 1) := by decide +kernel
theorem d_O_untell_60 : decode b_O_untell 60 = .ok (.aload 4, 2) := by decide +kernel
theorem d_O_untell_62 : decode b_O_untell 62 = .ok (.iload_n 1, 1) := by decide +kernel
theorem d_O_untell_63 : decode b_O_untell 63 = .ok (.iload_n 3, 1) := by decide +kernel
theorem d_O_untell_64 : decode b_O_untell 64 = .ok (.invokevirtual 95, 3) := by decide +kernel
theorem d_O_untell_67 : decode b_O_untell 67 = .ok (.iconst 0, 1) := by decide +kernel
theorem d_O_untell_68 : decode b_O_untell 68 = .ok (.ireturn, 1) := by decide +kernel
theorem d_O_resolve_0 : decode b_O_resolve 0 = .ok (.aload_n 0, 1) := by decide +kernel
theorem d_O_resolve_1 : decode b_O_resolve 1 = .ok (.getfield 10, 3) := by decide +kernel
theorem d_O_resolve_4 : decode b_O_resolve 4 = .ok (.iload_n 2, 1) := by decide +kernel
theorem d_O_resolve_5 : decode b_O_resolve 5 = .ok (.invokevirtual 49, 3) := by decide +kernel
theorem d_O_resolve_8 : decode b_O_resolve 8 = .ok (.ifCond .eq 22, 3) := by decide +kernel
theorem d_O_resolve_11 : decode b_O_resolve 11 = .ok (.aload_n 0, 1) := by decide +kernel
theorem d_O_resolve_12 : decode b_O_resolve 12 = .ok (.getfield 10, 3) := by decide +kernel
theorem d_O_resolve_15 : decode b_O_resolve 15 = .ok (.iload_n 3, 1) := by decide +kernel
theorem d_O_resolve_16 : decode b_O_resolve 16 = .ok (.invokevirtual 49, 3) := by decide +kernel
theorem d_O_resolve_19 : decode b_O_resolve 19 = .ok (.ifCond .eq 11, 3) := by decide +kernel
theorem d_O_resolve_22 : decode b_O_resolve 22 = .ok (.iload 4, 2) := by decide +kernel
theorem d_O_resolve_24 : decode b_O_resolve 24 = .ok (.invokestatic 80, 3) := by decide +kernel
theorem d_O_resolve_27 : decode b_O_resolve 27 = .ok (.ifCond .ne 5, 3) := by decide +kernel
theorem d_O_resolve_30 : decode b_O_resolve 30 = .ok (.iconst (-1), 1) := by decide +kernel
theorem d_O_resolve_31 : decode b_O_resolve 31 = .ok (.ireturn, 1) := by decide +kernel
theorem d_O_resolve_32 : decode b_O_resolve 32 = .ok (.iload_n 1, 1) := by decide +kernel
theorem d_O_resolve_33 : decode b_O_resolve 33 = .ok (.tableswitch 85 0 2 #[27, 65, 75], 27) := by decide +kernel
theorem d_O_resolve_60 : decode b_O_resolve 60 = .ok (.aload_n 0, 1) := by decide +kernel
theorem d_O_resolve_61 : decode b_O_resolve 61 = .ok (.iload_n 2, 1) := by decide +kernel
theorem d_O_resolve_62 : decode b_O_resolve 62 = .ok (.iload_n 3, 1) := by decide +kernel
theorem d_O_resolve_63 : decode b_O_resolve 63 = .ok (.iload 4, 2) := by decide +kernel
theorem d_O_resolve_65 : decode b_O_resolve 65 = .ok (.invokevirtual 98, 3) := by decide +kernel
theorem d_O_resolve_68 : decode b_O_resolve 68 = .ok (.istore 5, 2) := by decide +kernel
theorem d_O_resolve_70 : decode b_O_resolve 70 = .ok (.aload_n 0, 1) := by decide +kernel
theorem d_O_resolve_71 : decode b_O_resolve 71 = .ok (.iload 5, 2) := by decide +kernel
theorem d_O_resolve_73 : decode b_O_resolve 73 = .ok (.ifCond .le 7, 3) := by decide +kernel
theorem d_O_resolve_76 : decode b_O_resolve 76 = .ok (.iconst 1, 1) := by decide +kernel
theorem d_O_resolve_77 : decode b_O_resolve 77 = .ok (.goto 4, 3) := by decide +kernel
theorem d_O_resolve_80 : decode b_O_resolve 80 = .ok (.iconst 0, 1) := by decide +kernel
theorem d_O_resolve_81 : decode b_O_resolve 81 = .ok (.putfield 26, 3) := by decide +kernel
theorem d_O_resolve_84 : decode b_O_resolve 84 = .ok (.aload_n 0, 1) := by decide +kernel
theorem d_O_resolve_85 : decode b_O_resolve 85 = .ok (.aload_n 0, 1) := by decide +kernel
theorem d_O_resolve_86 : decode b_O_resolve 86 = .ok (.getfield 19, 3) := by decide +kernel
theorem d_O_resolve_89 : decode b_O_resolve 89 = .ok (.iload 5, 2) := by decide +kernel
theorem d_O_resolve_91 : decode b_O_resolve 91 = .ok (.iload 4, 2) := by decide +kernel
theorem d_O_resolve_93 : decode b_O_resolve 93 = .ok (.iload_n 2, 1) := by decide +kernel
theorem d_O_resolve_94 : decode b_O_resolve 94 = .ok (.invokevirtual 102, 3) := by decide +kernel
theorem d_O_resolve_97 : decode b_O_resolve 97 = .ok (.ireturn, 1) := by decide +kernel
theorem d_O_resolve_98 : decode b_O_resolve 98 = .ok (.aload_n 0, 1) := by decide +kernel
theorem d_O_resolve_99 : decode b_O_resolve 99 = .ok (.iconst 0, 1) := by decide +kernel
theorem d_O_resolve_100 : decode b_O_resolve 100 = .ok (.iload_n 2, 1) := by decide +kernel
theorem d_O_resolve_101 : decode b_O_resolve 101 = .ok (.iload_n 3, 1) := by decide +kernel
theorem d_O_resolve_102 : decode b_O_resolve 102 = .ok (.iload 4, 2) := by decide +kernel
theorem d_O_resolve_104 : decode b_O_resolve 104 = .ok (.invokevirtual 106, 3) := by decide +kernel
theorem d_O_resolve_107 : decode b_O_resolve 107 = .ok (.ireturn, 1) := by decide +kernel
theorem d_O_resolve_108 : decode b_O_resolve 108 = .ok (.aload_n 0, 1) := by decide +kernel
theorem d_O_resolve_109 : decode b_O_resolve 109 = .ok (.iconst 1, 1) := by decide +kernel
theorem d_O_resolve_110 : decode b_O_resolve 110 = .ok (.iload_n 2, 1) := by decide +kernel
theorem d_O_resolve_111 : decode b_O_resolve 111 = .ok (.iload_n 3, 1) := by decide +kernel
theorem d_O_resolve_112 : decode b_O_resolve 112 = .ok (.iload 4, 2) := by decide +kernel
theorem d_O_resolve_114 : decode b_O_resolve 114 = .ok (.invokevirtual 106, 3) := by decide +kernel
theorem d_O_resolve_117 : decode b_O_resolve 117 = .ok (.ireturn, 1) := by decide +kernel
theorem d_O_resolve_118 : decode b_O_resolve 118 = .ok (.iconst (-1), 1) := by decide +kernel
theorem d_O_resolve_119 : decode b_O_resolve 119 = .ok (.ireturn, 1) := by decide +kernel
theorem d_O_choices_0 : decode b_O_choices 0 = .ok (.aload_n 0, 1) := by decide +kernel
theorem d_O_choices_1 : decode b_O_choices 1 = .ok (.getfield 26, 3) := by decide +kernel
theorem d_O_choices_4 : decode b_O_choices 4 = .ok (.ireturn, 1) := by decide +kernel
theorem d_O_use_0 : decode b_O_use 0 = .ok (.aload_n 0, 1) := by decide +kernel
theorem d_O_use_1 : decode b_O_use 1 = .ok (.getfield 10, 3) := by decide +kernel
theorem d_O_use_4 : decode b_O_use 4 = .ok (.iload_n 1, 1) := by decide +kernel
theorem d_O_use_5 : decode b_O_use 5 = .ok (.invokevirtual 49, 3) := by decide +kernel
theorem d_O_use_8 : decode b_O_use 8 = .ok (.ifCond .eq 21, 3) := by decide +kernel
theorem d_O_use_11 : decode b_O_use 11 = .ok (.aload_n 0, 1) := by decide +kernel
theorem d_O_use_12 : decode b_O_use 12 = .ok (.getfield 10, 3) := by decide +kernel
theorem d_O_use_15 : decode b_O_use 15 = .ok (.iload_n 2, 1) := by decide +kernel
theorem d_O_use_16 : decode b_O_use 16 = .ok (.invokevirtual 49, 3) := by decide +kernel
theorem d_O_use_19 : decode b_O_use 19 = .ok (.ifCond .eq 10, 3) := by decide +kernel
theorem d_O_use_22 : decode b_O_use 22 = .ok (.iload_n 3, 1) := by decide +kernel
theorem d_O_use_23 : decode b_O_use 23 = .ok (.invokestatic 80, 3) := by decide +kernel
theorem d_O_use_26 : decode b_O_use 26 = .ok (.ifCond .ne 5, 3) := by decide +kernel
theorem d_O_use_29 : decode b_O_use 29 = .ok (.iconst (-1), 1) := by decide +kernel
theorem d_O_use_30 : decode b_O_use 30 = .ok (.ireturn, 1) := by decide +kernel
theorem d_O_use_31 : decode b_O_use 31 = .ok (.aload_n 0, 1) := by decide +kernel
theorem d_O_use_32 : decode b_O_use 32 = .ok (.aload_n 0, 1) := by decide +kernel
theorem d_O_use_33 : decode b_O_use 33 = .ok (.getfield 19, 3) := by decide +kernel
theorem d_O_use_36 : decode b_O_use 36 = .ok (.aload_n 0, 1) := by decide +kernel
theorem d_O_use_37 : decode b_O_use 37 = .ok (.iload_n 1, 1) := by decide +kernel
theorem d_O_use_38 : decode b_O_use 38 = .ok (.iload_n 2, 1) := by decide +kernel
theorem d_O_use_39 : decode b_O_use 39 = .ok (.iload_n 3, 1) := by decide +kernel
theorem d_O_use_40 : decode b_O_use 40 = .ok (.invokevirtual 98, 3) := by decide +kernel
theorem d_O_use_43 : decode b_O_use 43 = .ok (.iload_n 3, 1) := by decide +kernel
theorem d_O_use_44 : decode b_O_use 44 = .ok (.iload_n 1, 1) := by decide +kernel
theorem d_O_use_45 : decode b_O_use 45 = .ok (.invokevirtual 102, 3) := by decide +kernel
theorem d_O_use_48 : decode b_O_use 48 = .ok (.istore 5, 2) := by decide +kernel
theorem d_O_use_50 : decode b_O_use 50 = .ok (.iload 5, 2) := by decide +kernel
theorem d_O_use_52 : decode b_O_use 52 = .ok (.ifCond .le 21, 3) := by decide +kernel
theorem d_O_use_55 : decode b_O_use 55 = .ok (.aload_n 0, 1) := by decide +kernel
theorem d_O_use_56 : decode b_O_use 56 = .ok (.getfield 19, 3) := by decide +kernel
theorem d_O_use_59 : decode b_O_use 59 = .ok (.iload 5, 2) := by decide +kernel
theorem d_O_use_61 : decode b_O_use 61 = .ok (.iload_n 3, 1) := by decide +kernel
theorem d_O_use_62 : decode b_O_use 62 = .ok (.invokevirtual 110, 3) := by decide +kernel
theorem d_O_use_65 : decode b_O_use 65 = .ok (.iload 4, 2) := by decide +kernel
theorem d_O_use_67 : decode b_O_use 67 = .ok (.if_icmp .eq 6, 3) := by decide +kernel
theorem d_O_use_70 : decode b_O_use 70 = .ok (.bipush (-6), 2) := by decide +kernel
theorem d_O_use_72 : decode b_O_use 72 = .ok (.ireturn, 1) := by decide +kernel
theorem d_O_use_73 : decode b_O_use 73 = .ok (.iload 5, 2) := by decide +kernel
theorem d_O_use_75 : decode b_O_use 75 = .ok (.ireturn, 1) := by decide +kernel
theorem d_O_invoke_0 : decode b_O_invoke 0 = .ok (.aload_n 0, 1) := by decide +kernel
theorem d_O_invoke_1 : decode b_O_invoke 1 = .ok (.getfield 10, 3) := by decide +kernel
theorem d_O_invoke_4 : decode b_O_invoke 4 = .ok (.iload_n 2, 1) := by decide +kernel
theorem d_O_invoke_5 : decode b_O_invoke 5 = .ok (.invokevirtual 49, 3) := by decide +kernel
theorem d_O_invoke_8 : decode b_O_invoke 8 = .ok (.ifCond .eq 22, 3) := by decide +kernel
theorem d_O_invoke_11 : decode b_O_invoke 11 = .ok (.aload_n 0, 1) := by decide +kernel
theorem d_O_invoke_12 : decode b_O_invoke 12 = .ok (.getfield 10, 3) := by decide +kernel
theorem d_O_invoke_15 : decode b_O_invoke 15 = .ok (.iload_n 3, 1) := by decide +kernel
theorem d_O_invoke_16 : decode b_O_invoke 16 = .ok (.invokevirtual 49, 3) := by decide +kernel
theorem d_O_invoke_19 : decode b_O_invoke 19 = .ok (.ifCond .eq 11, 3) := by decide +kernel
theorem d_O_invoke_22 : decode b_O_invoke 22 = .ok (.iload 4, 2) := by decide +kernel
theorem d_O_invoke_24 : decode b_O_invoke 24 = .ok (.invokestatic 80, 3) := by decide +kernel
theorem d_O_invoke_27 : decode b_O_invoke 27 = .ok (.ifCond .ne 5, 3) := by decide +kernel
theorem d_O_invoke_30 : decode b_O_invoke 30 = .ok (.iconst (-1), 1) := by decide +kernel
theorem d_O_invoke_31 : decode b_O_invoke 31 = .ok (.ireturn, 1) := by decide +kernel
theorem d_O_invoke_32 : decode b_O_invoke 32 = .ok (.aload_n 0, 1) := by decide +kernel
theorem d_O_invoke_33 : decode b_O_invoke 33 = .ok (.iload_n 1, 1) := by decide +kernel
theorem d_O_invoke_34 : decode b_O_invoke 34 = .ok (.iload_n 2, 1) := by decide +kernel
theorem d_O_invoke_35 : decode b_O_invoke 35 = .ok (.iload_n 3, 1) := by decide +kernel
theorem d_O_invoke_36 : decode b_O_invoke 36 = .ok (.iload 5, 2) := by decide +kernel
theorem d_O_invoke_38 : decode b_O_invoke 38 = .ok (.invokevirtual 113, 3) := by decide +kernel
theorem d_O_invoke_41 : decode b_O_invoke 41 = .ok (.ifCond .ne 5, 3) := by decide +kernel
theorem d_O_invoke_44 : decode b_O_invoke 44 = .ok (.iconst (-1), 1) := by decide +kernel
theorem d_O_invoke_45 : decode b_O_invoke 45 = .ok (.ireturn, 1) := by decide +kernel
theorem d_O_invoke_46 : decode b_O_invoke 46 = .ok (.iload_n 1, 1) := by decide +kernel
theorem d_O_invoke_47 : decode b_O_invoke 47 = .ok (.tableswitch 56 0 2 #[25, 36, 47], 25) := by decide +kernel
theorem d_O_invoke_72 : decode b_O_invoke 72 = .ok (.aload_n 0, 1) := by decide +kernel
theorem d_O_invoke_73 : decode b_O_invoke 73 = .ok (.iload_n 2, 1) := by decide +kernel
theorem d_O_invoke_74 : decode b_O_invoke 74 = .ok (.iload_n 3, 1) := by decide +kernel
theorem d_O_invoke_75 : decode b_O_invoke 75 = .ok (.iload 4, 2) := by decide +kernel
theorem d_O_invoke_77 : decode b_O_invoke 77 = .ok (.iload 5, 2) := by decide +kernel
theorem d_O_invoke_79 : decode b_O_invoke 79 = .ok (.invokevirtual 117, 3) := by decide +kernel
theorem d_O_invoke_82 : decode b_O_invoke 82 = .ok (.ireturn, 1) := by decide +kernel
theorem d_O_invoke_83 : decode b_O_invoke 83 = .ok (.aload_n 0, 1) := by decide +kernel
theorem d_O_invoke_84 : decode b_O_invoke 84 = .ok (.iload_n 2, 1) := by decide +kernel
theorem d_O_invoke_85 : decode b_O_invoke 85 = .ok (.iload_n 3, 1) := by decide +kernel
theorem d_O_invoke_86 : decode b_O_invoke 86 = .ok (.iload 4, 2) := by decide +kernel
theorem d_O_invoke_88 : decode b_O_invoke 88 = .ok (.iload 5, 2) := by decide +kernel
theorem d_O_invoke_90 : decode b_O_invoke 90 = .ok (.invokevirtual 121, 3) := by decide +kernel
theorem d_O_invoke_93 : decode b_O_invoke 93 = .ok (.ireturn, 1) := by decide +kernel
theorem d_O_invoke_94 : decode b_O_invoke 94 = .ok (.aload_n 0, 1) := by decide +kernel
theorem d_O_invoke_95 : decode b_O_invoke 95 = .ok (.iload_n 2, 1) := by decide +kernel
theorem d_O_invoke_96 : decode b_O_invoke 96 = .ok (.iload_n 3, 1) := by decide +kernel
theorem d_O_invoke_97 : decode b_O_invoke 97 = .ok (.iload 4, 2) := by decide +kernel
theorem d_O_invoke_99 : decode b_O_invoke 99 = .ok (.invokevirtual 124, 3) := by decide +kernel
theorem d_O_invoke_102 : decode b_O_invoke 102 = .ok (.ireturn, 1) := by decide +kernel
theorem d_O_invoke_103 : decode b_O_invoke 103 = .ok (.aload_n 0, 1) := by decide +kernel
theorem d_O_invoke_104 : decode b_O_invoke 104 = .ok (.iload_n 2, 1) := by decide +kernel
theorem d_O_invoke_105 : decode b_O_invoke 105 = .ok (.iload_n 3, 1) := by decide +kernel
theorem d_O_invoke_106 : decode b_O_invoke 106 = .ok (.iload 4, 2) := by decide +kernel
theorem d_O_invoke_108 : decode b_O_invoke 108 = .ok (.invokevirtual 127, 3) := by decide +kernel
theorem d_O_invoke_111 : decode b_O_invoke 111 = .ok (.ireturn, 1) := by decide +kernel
theorem d_O_isA_0 : decode b_O_isA 0 = .ok (.aload_n 0, 1) := by decide +kernel
theorem d_O_isA_1 : decode b_O_isA 1 = .ok (.getfield 10, 3) := by decide +kernel
theorem d_O_isA_4 : decode b_O_isA 4 = .ok (.iload_n 1, 1) := by decide +kernel
theorem d_O_isA_5 : decode b_O_isA 5 = .ok (.invokevirtual 49, 3) := by decide +kernel
theorem d_O_isA_8 : decode b_O_isA 8 = .ok (.ifCond .eq 30, 3) := by decide +kernel
theorem d_O_isA_11 : decode b_O_isA 11 = .ok (.aload_n 0, 1) := by decide +kernel
theorem d_O_isA_12 : decode b_O_isA 12 = .ok (.getfield 10, 3) := by decide +kernel
