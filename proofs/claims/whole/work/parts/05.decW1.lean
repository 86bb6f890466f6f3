theorem d_W_search_16 : decode b_W_search 16 = .ok (.iload_n 3, 1) := by decide +kernel
theorem d_W_search_17 : decode b_W_search 17 = .ok (.iaload, 1) := by decide +kernel
theorem d_W_search_18 : decode b_W_search 18 = .ok (.iload_n 2, 1) := by decide +kernel
theorem d_W_search_19 : decode b_W_search 19 = .ok (.iand, 1) := by decide +kernel
theorem d_W_search_20 : decode b_W_search 20 = .ok (.ifCond .eq 26, 3) := by decide +kernel
theorem d_W_search_23 : decode b_W_search 23 = .ok (.iload_n 2, 1) := by decide +kernel
theorem d_W_search_24 : decode b_W_search 24 = .ok (.iload_n 3, 1) := by decide +kernel
theorem d_W_search_25 : decode b_W_search 25 = .ok (.invokestatic 47, 3) := by decide +kernel
theorem d_W_search_28 : decode b_W_search 28 = .ok (.ifCond .eq 5, 3) := by decide +kernel
theorem d_W_search_31 : decode b_W_search 31 = .ok (.iload_n 3, 1) := by decide +kernel
theorem d_W_search_32 : decode b_W_search 32 = .ok (.ireturn, 1) := by decide +kernel
theorem d_W_search_33 : decode b_W_search 33 = .ok (.aload_n 0, 1) := by decide +kernel
theorem d_W_search_34 : decode b_W_search 34 = .ok (.iload_n 3, 1) := by decide +kernel
theorem d_W_search_35 : decode b_W_search 35 = .ok (.iload_n 2, 1) := by decide +kernel
theorem d_W_search_36 : decode b_W_search 36 = .ok (.invokevirtual 65, 3) := by decide +kernel
theorem d_W_search_39 : decode b_W_search 39 = .ok (.istore_n 3, 1) := by decide +kernel
theorem d_W_search_40 : decode b_W_search 40 = .ok (.iinc 4 1, 3) := by decide +kernel
theorem d_W_search_43 : decode b_W_search 43 = .ok (.goto (-38), 3) := by decide +kernel
theorem d_W_search_46 : decode b_W_search 46 = .ok (.iconst 0, 1) := by decide +kernel
theorem d_W_search_47 : decode b_W_search 47 = .ok (.ireturn, 1) := by decide +kernel
theorem d_W_nextToSearch_0 : decode b_W_nextToSearch 0 = .ok (.iconst 0, 1) := by decide +kernel
theorem d_W_nextToSearch_1 : decode b_W_nextToSearch 1 = .ok (.istore_n 3, 1) := by decide +kernel
theorem d_W_nextToSearch_2 : decode b_W_nextToSearch 2 = .ok (.iload_n 3, 1) := by decide +kernel
theorem d_W_nextToSearch_3 : decode b_W_nextToSearch 3 = .ok (.aload_n 0, 1) := by decide +kernel
theorem d_W_nextToSearch_4 : decode b_W_nextToSearch 4 = .ok (.getfield 21, 3) := by decide +kernel
theorem d_W_nextToSearch_7 : decode b_W_nextToSearch 7 = .ok (.iload_n 1, 1) := by decide +kernel
theorem d_W_nextToSearch_8 : decode b_W_nextToSearch 8 = .ok (.iaload, 1) := by decide +kernel
theorem d_W_nextToSearch_9 : decode b_W_nextToSearch 9 = .ok (.if_icmp .ge 32, 3) := by decide +kernel
theorem d_W_nextToSearch_12 : decode b_W_nextToSearch 12 = .ok (.aload_n 0, 1) := by decide +kernel
theorem d_W_nextToSearch_13 : decode b_W_nextToSearch 13 = .ok (.iload_n 1, 1) := by decide +kernel
theorem d_W_nextToSearch_14 : decode b_W_nextToSearch 14 = .ok (.iload_n 3, 1) := by decide +kernel
theorem d_W_nextToSearch_15 : decode b_W_nextToSearch 15 = .ok (.invokevirtual 58, 3) := by decide +kernel
theorem d_W_nextToSearch_18 : decode b_W_nextToSearch 18 = .ok (.istore 4, 2) := by decide +kernel
theorem d_W_nextToSearch_20 : decode b_W_nextToSearch 20 = .ok (.aload_n 0, 1) := by decide +kernel
theorem d_W_nextToSearch_21 : decode b_W_nextToSearch 21 = .ok (.getfield 27, 3) := by decide +kernel
theorem d_W_nextToSearch_24 : decode b_W_nextToSearch 24 = .ok (.iload 4, 2) := by decide +kernel
theorem d_W_nextToSearch_26 : decode b_W_nextToSearch 26 = .ok (.iaload, 1) := by decide +kernel
theorem d_W_nextToSearch_27 : decode b_W_nextToSearch 27 = .ok (.iload_n 2, 1) := by decide +kernel
theorem d_W_nextToSearch_28 : decode b_W_nextToSearch 28 = .ok (.iand, 1) := by decide +kernel
theorem d_W_nextToSearch_29 : decode b_W_nextToSearch 29 = .ok (.ifCond .eq 6, 3) := by decide +kernel
theorem d_W_nextToSearch_32 : decode b_W_nextToSearch 32 = .ok (.iload 4, 2) := by decide +kernel
theorem d_W_nextToSearch_34 : decode b_W_nextToSearch 34 = .ok (.ireturn, 1) := by decide +kernel
theorem d_W_nextToSearch_35 : decode b_W_nextToSearch 35 = .ok (.iinc 3 1, 3) := by decide +kernel
theorem d_W_nextToSearch_38 : decode b_W_nextToSearch 38 = .ok (.goto (-36), 3) := by decide +kernel
theorem d_W_nextToSearch_41 : decode b_W_nextToSearch 41 = .ok (.aload_n 0, 1) := by decide +kernel
theorem d_W_nextToSearch_42 : decode b_W_nextToSearch 42 = .ok (.getfield 9, 3) := by decide +kernel
theorem d_W_nextToSearch_45 : decode b_W_nextToSearch 45 = .ok (.iload_n 1, 1) := by decide +kernel
theorem d_W_nextToSearch_46 : decode b_W_nextToSearch 46 = .ok (.iaload, 1) := by decide +kernel
theorem d_W_nextToSearch_47 : decode b_W_nextToSearch 47 = .ok (.ireturn, 1) := by decide +kernel
