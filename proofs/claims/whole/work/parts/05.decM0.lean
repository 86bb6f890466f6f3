theorem d_M_init_0 : decode b_M_init 0 = .ok (.aload_n 0, 1) := by decide +kernel
theorem d_M_init_1 : decode b_M_init 1 = .ok (.invokespecial 3, 3) := by decide +kernel
theorem d_M_init_4 : decode b_M_init 4 = .ok (.aload_n 0, 1) := by decide +kernel
theorem d_M_init_5 : decode b_M_init 5 = .ok (.iconst 4, 1) := by decide +kernel
theorem d_M_init_6 : decode b_M_init 6 = .ok (.newarray .int, 2) := by decide +kernel
theorem d_M_init_8 : decode b_M_init 8 = .ok (.putfield 9, 3) := by decide +kernel
theorem d_M_init_11 : decode b_M_init 11 = .ok (.aload_n 0, 1) := by decide +kernel
theorem d_M_init_12 : decode b_M_init 12 = .ok (.iconst 4, 1) := by decide +kernel
theorem d_M_init_13 : decode b_M_init 13 = .ok (.newarray .int, 2) := by decide +kernel
theorem d_M_init_15 : decode b_M_init 15 = .ok (.putfield 15, 3) := by decide +kernel
theorem d_M_init_18 : decode b_M_init 18 = .ok (.aload_n 0, 1) := by decide +kernel
theorem d_M_init_19 : decode b_M_init 19 = .ok (.iconst 4, 1) := by decide +kernel
theorem d_M_init_20 : decode b_M_init 20 = .ok (.newarray .int, 2) := by decide +kernel
theorem d_M_init_22 : decode b_M_init 22 = .ok (.putfield 18, 3) := by decide +kernel
theorem d_M_init_25 : decode b_M_init 25 = .ok (.aload_n 0, 1) := by decide +kernel
theorem d_M_init_26 : decode b_M_init 26 = .ok (.iconst 4, 1) := by decide +kernel
theorem d_M_init_27 : decode b_M_init 27 = .ok (.newarray .int, 2) := by decide +kernel
theorem d_M_init_29 : decode b_M_init 29 = .ok (.putfield 21, 3) := by decide +kernel
theorem d_M_init_32 : decode b_M_init 32 = .ok (.aload_n 0, 1) := by decide +kernel
theorem d_M_init_33 : decode b_M_init 33 = .ok (.bipush 52, 2) := by decide +kernel
theorem d_M_init_35 : decode b_M_init 35 = .ok (.newarray .int, 2) := by decide +kernel
theorem d_M_init_37 : decode b_M_init 37 = .ok (.putfield 24, 3) := by decide +kernel
theorem d_M_init_40 : decode b_M_init 40 = .ok (.return_, 1) := by decide +kernel
theorem d_M_put_0 : decode b_M_put 0 = .ok (.aload_n 0, 1) := by decide +kernel
theorem d_M_put_1 : decode b_M_put 1 = .ok (.iload_n 1, 1) := by decide +kernel
theorem d_M_put_2 : decode b_M_put 2 = .ok (.iload_n 2, 1) := by decide +kernel
theorem d_M_put_3 : decode b_M_put 3 = .ok (.invokevirtual 27, 3) := by decide +kernel
theorem d_M_put_6 : decode b_M_put 6 = .ok (.iconst 1, 1) := by decide +kernel
theorem d_M_put_7 : decode b_M_put 7 = .ok (.iload_n 1, 1) := by decide +kernel
theorem d_M_put_8 : decode b_M_put 8 = .ok (.ishl, 1) := by decide +kernel
theorem d_M_put_9 : decode b_M_put 9 = .ok (.istore 5, 2) := by decide +kernel
theorem d_M_put_11 : decode b_M_put 11 = .ok (.aload_n 0, 1) := by decide +kernel
theorem d_M_put_12 : decode b_M_put 12 = .ok (.getfield 9, 3) := by decide +kernel
theorem d_M_put_15 : decode b_M_put 15 = .ok (.iload_n 2, 1) := by decide +kernel
theorem d_M_put_16 : decode b_M_put 16 = .ok (.dup2, 1) := by decide +kernel
theorem d_M_put_17 : decode b_M_put 17 = .ok (.iaload, 1) := by decide +kernel
theorem d_M_put_18 : decode b_M_put 18 = .ok (.iload 5, 2) := by decide +kernel
theorem d_M_put_20 : decode b_M_put 20 = .ok (.ior, 1) := by decide +kernel
theorem d_M_put_21 : decode b_M_put 21 = .ok (.iastore, 1) := by decide +kernel
theorem d_M_put_22 : decode b_M_put 22 = .ok (.iload 4, 2) := by decide +kernel
theorem d_M_put_24 : decode b_M_put 24 = .ok (.iconst 1, 1) := by decide +kernel
theorem d_M_put_25 : decode b_M_put 25 = .ok (.if_icmp .ne 14, 3) := by decide +kernel
theorem d_M_put_28 : decode b_M_put 28 = .ok (.aload_n 0, 1) := by decide +kernel
theorem d_M_put_29 : decode b_M_put 29 = .ok (.getfield 15, 3) := by decide +kernel
theorem d_M_put_32 : decode b_M_put 32 = .ok (.iload_n 2, 1) := by decide +kernel
theorem d_M_put_33 : decode b_M_put 33 = .ok (.dup2, 1) := by decide +kernel
theorem d_M_put_34 : decode b_M_put 34 = .ok (.iaload, 1) := by decide +kernel
theorem d_M_put_35 : decode b_M_put 35 = .ok (.iload 5, 2) := by decide +kernel
theorem d_M_put_37 : decode b_M_put 37 = .ok (.ior, 1) := by decide +kernel
theorem d_M_put_38 : decode b_M_put 38 = .ok (.iastore, 1) := by decide +kernel
theorem d_M_put_39 : decode b_M_put 39 = .ok (.iload 4, 2) := by decide +kernel
theorem d_M_put_41 : decode b_M_put 41 = .ok (.iconst 2, 1) := by decide +kernel
theorem d_M_put_42 : decode b_M_put 42 = .ok (.if_icmp .ne 14, 3) := by decide +kernel
theorem d_M_put_45 : decode b_M_put 45 = .ok (.aload_n 0, 1) := by decide +kernel
theorem d_M_put_46 : decode b_M_put 46 = .ok (.getfield 18, 3) := by decide +kernel
theorem d_M_put_49 : decode b_M_put 49 = .ok (.iload_n 2, 1) := by decide +kernel
theorem d_M_put_50 : decode b_M_put 50 = .ok (.dup2, 1) := by decide +kernel
theorem d_M_put_51 : decode b_M_put 51 = .ok (.iaload, 1) := by decide +kernel
theorem d_M_put_52 : decode b_M_put 52 = .ok (.iload 5, 2) := by decide +kernel
theorem d_M_put_54 : decode b_M_put 54 = .ok (.ior, 1) := by decide +kernel
theorem d_M_put_55 : decode b_M_put 55 = .ok (.iastore, 1) := by decide +kernel
theorem d_M_put_56 : decode b_M_put 56 = .ok (.iload_n 3, 1) := by decide +kernel
theorem d_M_put_57 : decode b_M_put 57 = .ok (.ifCond .ne 14, 3) := by decide +kernel
theorem d_M_put_60 : decode b_M_put 60 = .ok (.aload_n 0, 1) := by decide +kernel
theorem d_M_put_61 : decode b_M_put 61 = .ok (.getfield 21, 3) := by decide +kernel
theorem d_M_put_64 : decode b_M_put 64 = .ok (.iload_n 2, 1) := by decide +kernel
theorem d_M_put_65 : decode b_M_put 65 = .ok (.dup2, 1) := by decide +kernel
theorem d_M_put_66 : decode b_M_put 66 = .ok (.iaload, 1) := by decide +kernel
theorem d_M_put_67 : decode b_M_put 67 = .ok (.iload 5, 2) := by decide +kernel
theorem d_M_put_69 : decode b_M_put 69 = .ok (.ior, 1) := by decide +kernel
theorem d_M_put_70 : decode b_M_put 70 = .ok (.iastore, 1) := by decide +kernel
theorem d_M_put_71 : decode b_M_put 71 = .ok (.aload_n 0, 1) := by decide +kernel
theorem d_M_put_72 : decode b_M_put 72 = .ok (.getfield 24, 3) := by decide +kernel
theorem d_M_put_75 : decode b_M_put 75 = .ok (.iload_n 1, 1) := by decide +kernel
theorem d_M_put_76 : decode b_M_put 76 = .ok (.iconst 4, 1) := by decide +kernel
theorem d_M_put_77 : decode b_M_put 77 = .ok (.imul, 1) := by decide +kernel
theorem d_M_put_78 : decode b_M_put 78 = .ok (.iload_n 2, 1) := by decide +kernel
theorem d_M_put_79 : decode b_M_put 79 = .ok (.iadd, 1) := by decide +kernel
theorem d_M_put_80 : decode b_M_put 80 = .ok (.iload_n 3, 1) := by decide +kernel
theorem d_M_put_81 : decode b_M_put 81 = .ok (.iastore, 1) := by decide +kernel
theorem d_M_put_82 : decode b_M_put 82 = .ok (.return_, 1) := by decide +kernel
theorem d_M_drop_0 : decode b_M_drop 0 = .ok (.iconst 1, 1) := by decide +kernel
theorem d_M_drop_1 : decode b_M_drop 1 = .ok (.iload_n 1, 1) := by decide +kernel
theorem d_M_drop_2 : decode b_M_drop 2 = .ok (.ishl, 1) := by decide +kernel
theorem d_M_drop_3 : decode b_M_drop 3 = .ok (.iconst (-1), 1) := by decide +kernel
theorem d_M_drop_4 : decode b_M_drop 4 = .ok (.ixor, 1) := by decide +kernel
theorem d_M_drop_5 : decode b_M_drop 5 = .ok (.istore_n 3, 1) := by decide +kernel
theorem d_M_drop_6 : decode b_M_drop 6 = .ok (.aload_n 0, 1) := by decide +kernel
theorem d_M_drop_7 : decode b_M_drop 7 = .ok (.getfield 9, 3) := by decide +kernel
theorem d_M_drop_10 : decode b_M_drop 10 = .ok (.iload_n 2, 1) := by decide +kernel
theorem d_M_drop_11 : decode b_M_drop 11 = .ok (.dup2, 1) := by decide +kernel
theorem d_M_drop_12 : decode b_M_drop 12 = .ok (.iaload, 1) := by decide +kernel
theorem d_M_drop_13 : decode b_M_drop 13 = .ok (.iload_n 3, 1) := by decide +kernel
theorem d_M_drop_14 : decode b_M_drop 14 = .ok (.iand, 1) := by decide +kernel
theorem d_M_drop_15 : decode b_M_drop 15 = .ok (.iastore, 1) := by decide +kernel
theorem d_M_drop_16 : decode b_M_drop 16 = .ok (.aload_n 0, 1) := by decide +kernel
theorem d_M_drop_17 : decode b_M_drop 17 = .ok (.getfield 15, 3) := by decide +kernel
theorem d_M_drop_20 : decode b_M_drop 20 = .ok (.iload_n 2, 1) := by decide +kernel
theorem d_M_drop_21 : decode b_M_drop 21 = .ok (.dup2, 1) := by decide +kernel
theorem d_M_drop_22 : decode b_M_drop 22 = .ok (.iaload, 1) := by decide +kernel
theorem d_M_drop_23 : decode b_M_drop 23 = .ok (.iload_n 3, 1) := by decide +kernel
theorem d_M_drop_24 : decode b_M_drop 24 = .ok (.iand, 1) := by decide +kernel
theorem d_M_drop_25 : decode b_M_drop 25 = .ok (.iastore, 1) := by decide +kernel
theorem d_M_drop_26 : decode b_M_drop 26 = .ok (.aload_n 0, 1) := by decide +kernel
theorem d_M_drop_27 : decode b_M_drop 27 = .ok (.getfield 18, 3) := by decide +kernel
theorem d_M_drop_30 : decode b_M_drop 30 = .ok (.iload_n 2, 1) := by decide +kernel
theorem d_M_drop_31 : decode b_M_drop 31 = .ok (.dup2, 1) := by decide +kernel
theorem d_M_drop_32 : decode b_M_drop 32 = .ok (.iaload, 1) := by decide +kernel
theorem d_M_drop_33 : decode b_M_drop 33 = .ok (.iload_n 3, 1) := by decide +kernel
theorem d_M_drop_34 : decode b_M_drop 34 = .ok (.iand, 1) := by decide +kernel
theorem d_M_drop_35 : decode b_M_drop 35 = .ok (.iastore, 1) := by decide +kernel
theorem d_M_drop_36 : decode b_M_drop 36 = .ok (.aload_n 0, 1) := by decide +kernel
theorem d_M_drop_37 : decode b_M_drop 37 = .ok (.getfield 21, 3) := by decide +kernel
theorem d_M_drop_40 : decode b_M_drop 40 = .ok (.iload_n 2, 1) := by decide +kernel
theorem d_M_drop_41 : decode b_M_drop 41 = .ok (.dup2, 1) := by decide +kernel
theorem d_M_drop_42 : decode b_M_drop 42 = .ok (.iaload, 1) := by decide +kernel
theorem d_M_drop_43 : decode b_M_drop 43 = .ok (.iload_n 3, 1) := by decide +kernel
theorem d_M_drop_44 : decode b_M_drop 44 = .ok (.iand, 1) := by decide +kernel
theorem d_M_drop_45 : decode b_M_drop 45 = .ok (.iastore, 1) := by decide +kernel
theorem d_M_drop_46 : decode b_M_drop 46 = .ok (.return_, 1) := by decide +kernel
theorem d_M_has_0 : decode b_M_has 0 = .ok (.aload_n 0, 1) := by decide +kernel
theorem d_M_has_1 : decode b_M_has 1 = .ok (.getfield 9, 3) := by decide +kernel
theorem d_M_has_4 : decode b_M_has 4 = .ok (.iload_n 2, 1) := by decide +kernel
theorem d_M_has_5 : decode b_M_has 5 = .ok (.iaload, 1) := by decide +kernel
theorem d_M_has_6 : decode b_M_has 6 = .ok (.iload_n 1, 1) := by decide +kernel
theorem d_M_has_7 : decode b_M_has 7 = .ok (.invokestatic 31, 3) := by decide +kernel
theorem d_M_has_10 : decode b_M_has 10 = .ok (.ireturn, 1) := by decide +kernel
theorem d_M_isStatic_0 : decode b_M_isStatic 0 = .ok (.aload_n 0, 1) := by decide +kernel
theorem d_M_isStatic_1 : decode b_M_isStatic 1 = .ok (.getfield 15, 3) := by decide +kernel
theorem d_M_isStatic_4 : decode b_M_isStatic 4 = .ok (.iload_n 2, 1) := by decide +kernel
theorem d_M_isStatic_5 : decode b_M_isStatic 5 = .ok (.iaload, 1) := by decide +kernel
theorem d_M_isStatic_6 : decode b_M_isStatic 6 = .ok (.iload_n 1, 1) := by decide +kernel
theorem d_M_isStatic_7 : decode b_M_isStatic 7 = .ok (.invokestatic 31, 3) := by decide +kernel
theorem d_M_isStatic_10 : decode b_M_isStatic 10 = .ok (.ireturn, 1) := by decide +kernel
theorem d_M_accessOf_0 : decode b_M_accessOf 0 = .ok (.aload_n 0, 1) := by decide +kernel
theorem d_M_accessOf_1 : decode b_M_accessOf 1 = .ok (.getfield 24, 3) := by decide +kernel
theorem d_M_accessOf_4 : decode b_M_accessOf 4 = .ok (.iload_n 1, 1) := by decide +kernel
theorem d_M_accessOf_5 : decode b_M_accessOf 5 = .ok (.iconst 4, 1) := by decide +kernel
theorem d_M_accessOf_6 : decode b_M_accessOf 6 = .ok (.imul, 1) := by decide +kernel
theorem d_M_accessOf_7 : decode b_M_accessOf 7 = .ok (.iload_n 2, 1) := by decide +kernel
theorem d_M_accessOf_8 : decode b_M_accessOf 8 = .ok (.iadd, 1) := by decide +kernel
theorem d_M_accessOf_9 : decode b_M_accessOf 9 = .ok (.iaload, 1) := by decide +kernel
theorem d_M_accessOf_10 : decode b_M_accessOf 10 = .ok (.ireturn, 1) := by decide +kernel
theorem d_M_owners_0 : decode b_M_owners 0 = .ok (.aload_n 0, 1) := by decide +kernel
theorem d_M_owners_1 : decode b_M_owners 1 = .ok (.getfield 9, 3) := by decide +kernel
theorem d_M_owners_4 : decode b_M_owners 4 = .ok (.iload_n 1, 1) := by decide +kernel
theorem d_M_owners_5 : decode b_M_owners 5 = .ok (.iaload, 1) := by decide +kernel
theorem d_M_owners_6 : decode b_M_owners 6 = .ok (.ireturn, 1) := by decide +kernel
theorem d_M_abstracts_0 : decode b_M_abstracts 0 = .ok (.aload_n 0, 1) := by decide +kernel
theorem d_M_abstracts_1 : decode b_M_abstracts 1 = .ok (.getfield 18, 3) := by decide +kernel
theorem d_M_abstracts_4 : decode b_M_abstracts 4 = .ok (.iload_n 1, 1) := by decide +kernel
theorem d_M_abstracts_5 : decode b_M_abstracts 5 = .ok (.iaload, 1) := by decide +kernel
theorem d_M_abstracts_6 : decode b_M_abstracts 6 = .ok (.ireturn, 1) := by decide +kernel
theorem d_M_instances_0 : decode b_M_instances 0 = .ok (.aload_n 0, 1) := by decide +kernel
theorem d_M_instances_1 : decode b_M_instances 1 = .ok (.getfield 9, 3) := by decide +kernel
theorem d_M_instances_4 : decode b_M_instances 4 = .ok (.iload_n 1, 1) := by decide +kernel
theorem d_M_instances_5 : decode b_M_instances 5 = .ok (.iaload, 1) := by decide +kernel
theorem d_M_instances_6 : decode b_M_instances 6 = .ok (.aload_n 0, 1) := by decide +kernel
theorem d_M_instances_7 : decode b_M_instances 7 = .ok (.getfield 15, 3) := by decide +kernel
theorem d_M_instances_10 : decode b_M_instances 10 = .ok (.iload_n 1, 1) := by decide +kernel
theorem d_M_instances_11 : decode b_M_instances 11 = .ok (.iaload, 1) := by decide +kernel
theorem d_M_instances_12 : decode b_M_instances 12 = .ok (.iconst (-1), 1) := by decide +kernel
theorem d_M_instances_13 : decode b_M_instances 13 = .ok (.ixor, 1) := by decide +kernel
theorem d_M_instances_14 : decode b_M_instances 14 = .ok (.iand, 1) := by decide +kernel
theorem d_M_instances_15 : decode b_M_instances 15 = .ok (.ireturn, 1) := by decide +kernel
theorem d_M_inheritable_0 : decode b_M_inheritable 0 = .ok (.aload_n 0, 1) := by decide +kernel
theorem d_M_inheritable_1 : decode b_M_inheritable 1 = .ok (.getfield 9, 3) := by decide +kernel
theorem d_M_inheritable_4 : decode b_M_inheritable 4 = .ok (.iload_n 1, 1) := by decide +kernel
theorem d_M_inheritable_5 : decode b_M_inheritable 5 = .ok (.iaload, 1) := by decide +kernel
theorem d_M_inheritable_6 : decode b_M_inheritable 6 = .ok (.aload_n 0, 1) := by decide +kernel
theorem d_M_inheritable_7 : decode b_M_inheritable 7 = .ok (.getfield 15, 3) := by decide +kernel
theorem d_M_inheritable_10 : decode b_M_inheritable 10 = .ok (.iload_n 1, 1) := by decide +kernel
theorem d_M_inheritable_11 : decode b_M_inheritable 11 = .ok (.iaload, 1) := by decide +kernel
theorem d_M_inheritable_12 : decode b_M_inheritable 12 = .ok (.iconst (-1), 1) := by decide +kernel
theorem d_M_inheritable_13 : decode b_M_inheritable 13 = .ok (.ixor, 1) := by decide +kernel
theorem d_M_inheritable_14 : decode b_M_inheritable 14 = .ok (.iand, 1) := by decide +kernel
theorem d_M_inheritable_15 : decode b_M_inheritable 15 = .ok (.aload_n 0, 1) := by decide +kernel
theorem d_M_inheritable_16 : decode b_M_inheritable 16 = .ok (.getfield 21, 3) := by decide +kernel
theorem d_M_inheritable_19 : decode b_M_inheritable 19 = .ok (.iload_n 1, 1) := by decide +kernel
theorem d_M_inheritable_20 : decode b_M_inheritable 20 = .ok (.iaload, 1) := by decide +kernel
theorem d_M_inheritable_21 : decode b_M_inheritable 21 = .ok (.iconst (-1), 1) := by decide +kernel
theorem d_M_inheritable_22 : decode b_M_inheritable 22 = .ok (.ixor, 1) := by decide +kernel
theorem d_M_inheritable_23 : decode b_M_inheritable 23 = .ok (.iand, 1) := by decide +kernel
theorem d_M_inheritable_24 : decode b_M_inheritable 24 = .ok (.ireturn, 1) := by decide +kernel
