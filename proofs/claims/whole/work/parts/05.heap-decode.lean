theorem d_Heap_free_0 : decode b_Heap_free 0 = .ok (.aload_n 0, 1) := by decide +kernel
theorem d_Heap_free_1 : decode b_Heap_free 1 = .ok (.getfield 36, 3) := by decide +kernel
theorem d_Heap_free_4 : decode b_Heap_free 4 = .ok (.ireturn, 1) := by decide +kernel
theorem d_Heap_state_0 : decode b_Heap_state 0 = .ok (.iload_n 1, 1) := by decide +kernel
theorem d_Heap_state_1 : decode b_Heap_state 1 = .ok (.iconst (-1), 1) := by decide +kernel
theorem d_Heap_state_2 : decode b_Heap_state 2 = .ok (.if_icmp .ne 7, 3) := by decide +kernel
theorem d_Heap_state_5 : decode b_Heap_state 5 = .ok (.iconst 4, 1) := by decide +kernel
theorem d_Heap_state_6 : decode b_Heap_state 6 = .ok (.goto 9, 3) := by decide +kernel
theorem d_Heap_state_9 : decode b_Heap_state 9 = .ok (.aload_n 0, 1) := by decide +kernel
theorem d_Heap_state_10 : decode b_Heap_state 10 = .ok (.getfield 9, 3) := by decide +kernel
theorem d_Heap_state_13 : decode b_Heap_state 13 = .ok (.iload_n 1, 1) := by decide +kernel
theorem d_Heap_state_14 : decode b_Heap_state 14 = .ok (.iaload, 1) := by decide +kernel
theorem d_Heap_state_15 : decode b_Heap_state 15 = .ok (.ireturn, 1) := by decide +kernel
theorem d_Heap_first_0 : decode b_Heap_first 0 = .ok (.iload_n 1, 1) := by decide +kernel
theorem d_Heap_first_1 : decode b_Heap_first 1 = .ok (.iconst (-1), 1) := by decide +kernel
theorem d_Heap_first_2 : decode b_Heap_first 2 = .ok (.if_icmp .ne 7, 3) := by decide +kernel
theorem d_Heap_first_5 : decode b_Heap_first 5 = .ok (.iconst (-1), 1) := by decide +kernel
theorem d_Heap_first_6 : decode b_Heap_first 6 = .ok (.goto 9, 3) := by decide +kernel
theorem d_Heap_first_9 : decode b_Heap_first 9 = .ok (.aload_n 0, 1) := by decide +kernel
theorem d_Heap_first_10 : decode b_Heap_first 10 = .ok (.getfield 15, 3) := by decide +kernel
theorem d_Heap_first_13 : decode b_Heap_first 13 = .ok (.iload_n 1, 1) := by decide +kernel
theorem d_Heap_first_14 : decode b_Heap_first 14 = .ok (.iaload, 1) := by decide +kernel
theorem d_Heap_first_15 : decode b_Heap_first 15 = .ok (.ireturn, 1) := by decide +kernel
theorem d_Heap_second_0 : decode b_Heap_second 0 = .ok (.iload_n 1, 1) := by decide +kernel
theorem d_Heap_second_1 : decode b_Heap_second 1 = .ok (.iconst (-1), 1) := by decide +kernel
theorem d_Heap_second_2 : decode b_Heap_second 2 = .ok (.if_icmp .ne 7, 3) := by decide +kernel
theorem d_Heap_second_5 : decode b_Heap_second 5 = .ok (.iconst (-1), 1) := by decide +kernel
theorem d_Heap_second_6 : decode b_Heap_second 6 = .ok (.goto 9, 3) := by decide +kernel
theorem d_Heap_second_9 : decode b_Heap_second 9 = .ok (.aload_n 0, 1) := by decide +kernel
theorem d_Heap_second_10 : decode b_Heap_second 10 = .ok (.getfield 18, 3) := by decide +kernel
theorem d_Heap_second_13 : decode b_Heap_second 13 = .ok (.iload_n 1, 1) := by decide +kernel
theorem d_Heap_second_14 : decode b_Heap_second 14 = .ok (.iaload, 1) := by decide +kernel
theorem d_Heap_second_15 : decode b_Heap_second 15 = .ok (.ireturn, 1) := by decide +kernel
theorem d_Heap_become_0 : decode b_Heap_become 0 = .ok (.iload_n 1, 1) := by decide +kernel
theorem d_Heap_become_1 : decode b_Heap_become 1 = .ok (.iconst (-1), 1) := by decide +kernel
theorem d_Heap_become_2 : decode b_Heap_become 2 = .ok (.if_icmp .ne 4, 3) := by decide +kernel
theorem d_Heap_become_5 : decode b_Heap_become 5 = .ok (.return_, 1) := by decide +kernel
theorem d_Heap_become_6 : decode b_Heap_become 6 = .ok (.aload_n 0, 1) := by decide +kernel
theorem d_Heap_become_7 : decode b_Heap_become 7 = .ok (.getfield 9, 3) := by decide +kernel
theorem d_Heap_become_10 : decode b_Heap_become 10 = .ok (.iload_n 1, 1) := by decide +kernel
theorem d_Heap_become_11 : decode b_Heap_become 11 = .ok (.iload_n 2, 1) := by decide +kernel
theorem d_Heap_become_12 : decode b_Heap_become 12 = .ok (.iastore, 1) := by decide +kernel
theorem d_Heap_become_13 : decode b_Heap_become 13 = .ok (.aload_n 0, 1) := by decide +kernel
theorem d_Heap_become_14 : decode b_Heap_become 14 = .ok (.getfield 15, 3) := by decide +kernel
theorem d_Heap_become_17 : decode b_Heap_become 17 = .ok (.iload_n 1, 1) := by decide +kernel
theorem d_Heap_become_18 : decode b_Heap_become 18 = .ok (.iload_n 3, 1) := by decide +kernel
theorem d_Heap_become_19 : decode b_Heap_become 19 = .ok (.iastore, 1) := by decide +kernel
theorem d_Heap_become_20 : decode b_Heap_become 20 = .ok (.aload_n 0, 1) := by decide +kernel
theorem d_Heap_become_21 : decode b_Heap_become 21 = .ok (.getfield 18, 3) := by decide +kernel
theorem d_Heap_become_24 : decode b_Heap_become 24 = .ok (.iload_n 1, 1) := by decide +kernel
theorem d_Heap_become_25 : decode b_Heap_become 25 = .ok (.iload 4, 2) := by decide +kernel
theorem d_Heap_become_27 : decode b_Heap_become 27 = .ok (.iastore, 1) := by decide +kernel
theorem d_Heap_become_28 : decode b_Heap_become 28 = .ok (.return_, 1) := by decide +kernel
theorem d_Heap_beginMarks_0 : decode b_Heap_beginMarks 0 = .ok (.aload_n 0, 1) := by decide +kernel
theorem d_Heap_beginMarks_1 : decode b_Heap_beginMarks 1 = .ok (.dup, 1) := by decide +kernel
theorem d_Heap_beginMarks_2 : decode b_Heap_beginMarks 2 = .ok (.getfield 48, 3) := by decide +kernel
theorem d_Heap_beginMarks_5 : decode b_Heap_beginMarks 5 = .ok (.iconst 1, 1) := by decide +kernel
theorem d_Heap_beginMarks_6 : decode b_Heap_beginMarks 6 = .ok (.iadd, 1) := by decide +kernel
theorem d_Heap_beginMarks_7 : decode b_Heap_beginMarks 7 = .ok (.putfield 48, 3) := by decide +kernel
theorem d_Heap_beginMarks_10 : decode b_Heap_beginMarks 10 = .ok (.aload_n 0, 1) := by decide +kernel
theorem d_Heap_beginMarks_11 : decode b_Heap_beginMarks 11 = .ok (.iconst 0, 1) := by decide +kernel
theorem d_Heap_beginMarks_12 : decode b_Heap_beginMarks 12 = .ok (.putfield 51, 3) := by decide +kernel
theorem d_Heap_beginMarks_15 : decode b_Heap_beginMarks 15 = .ok (.return_, 1) := by decide +kernel
theorem d_Heap_take_0 : decode b_Heap_take 0 = .ok (.aload_n 0, 1) := by decide +kernel
theorem d_Heap_take_1 : decode b_Heap_take 1 = .ok (.getfield 36, 3) := by decide +kernel
theorem d_Heap_take_4 : decode b_Heap_take 4 = .ok (.ifCond .ne 5, 3) := by decide +kernel
theorem d_Heap_take_7 : decode b_Heap_take 7 = .ok (.iconst (-1), 1) := by decide +kernel
theorem d_Heap_take_8 : decode b_Heap_take 8 = .ok (.ireturn, 1) := by decide +kernel
theorem d_Heap_take_9 : decode b_Heap_take 9 = .ok (.aload_n 0, 1) := by decide +kernel
theorem d_Heap_take_10 : decode b_Heap_take 10 = .ok (.dup, 1) := by decide +kernel
theorem d_Heap_take_11 : decode b_Heap_take 11 = .ok (.getfield 36, 3) := by decide +kernel
theorem d_Heap_take_14 : decode b_Heap_take 14 = .ok (.iconst 1, 1) := by decide +kernel
theorem d_Heap_take_15 : decode b_Heap_take 15 = .ok (.isub, 1) := by decide +kernel
theorem d_Heap_take_16 : decode b_Heap_take 16 = .ok (.putfield 36, 3) := by decide +kernel
theorem d_Heap_take_19 : decode b_Heap_take 19 = .ok (.aload_n 0, 1) := by decide +kernel
theorem d_Heap_take_20 : decode b_Heap_take 20 = .ok (.getfield 21, 3) := by decide +kernel
theorem d_Heap_take_23 : decode b_Heap_take 23 = .ok (.aload_n 0, 1) := by decide +kernel
theorem d_Heap_take_24 : decode b_Heap_take 24 = .ok (.getfield 36, 3) := by decide +kernel
theorem d_Heap_take_27 : decode b_Heap_take 27 = .ok (.iaload, 1) := by decide +kernel
theorem d_Heap_take_28 : decode b_Heap_take 28 = .ok (.istore 4, 2) := by decide +kernel
theorem d_Heap_take_30 : decode b_Heap_take 30 = .ok (.aload_n 0, 1) := by decide +kernel
theorem d_Heap_take_31 : decode b_Heap_take 31 = .ok (.iload 4, 2) := by decide +kernel
theorem d_Heap_take_33 : decode b_Heap_take 33 = .ok (.iload_n 1, 1) := by decide +kernel
theorem d_Heap_take_34 : decode b_Heap_take 34 = .ok (.iload_n 2, 1) := by decide +kernel
theorem d_Heap_take_35 : decode b_Heap_take 35 = .ok (.iload_n 3, 1) := by decide +kernel
theorem d_Heap_take_36 : decode b_Heap_take 36 = .ok (.invokevirtual 40, 3) := by decide +kernel
theorem d_Heap_take_39 : decode b_Heap_take 39 = .ok (.iload 4, 2) := by decide +kernel
theorem d_Heap_take_41 : decode b_Heap_take 41 = .ok (.ireturn, 1) := by decide +kernel
theorem d_Heap_reach_0 : decode b_Heap_reach 0 = .ok (.iload_n 1, 1) := by decide +kernel
theorem d_Heap_reach_1 : decode b_Heap_reach 1 = .ok (.iconst (-1), 1) := by decide +kernel
theorem d_Heap_reach_2 : decode b_Heap_reach 2 = .ok (.if_icmp .eq 16, 3) := by decide +kernel
theorem d_Heap_reach_5 : decode b_Heap_reach 5 = .ok (.aload_n 0, 1) := by decide +kernel
theorem d_Heap_reach_6 : decode b_Heap_reach 6 = .ok (.getfield 24, 3) := by decide +kernel
theorem d_Heap_reach_9 : decode b_Heap_reach 9 = .ok (.iload_n 1, 1) := by decide +kernel
theorem d_Heap_reach_10 : decode b_Heap_reach 10 = .ok (.iaload, 1) := by decide +kernel
theorem d_Heap_reach_11 : decode b_Heap_reach 11 = .ok (.aload_n 0, 1) := by decide +kernel
theorem d_Heap_reach_12 : decode b_Heap_reach 12 = .ok (.getfield 48, 3) := by decide +kernel
theorem d_Heap_reach_15 : decode b_Heap_reach 15 = .ok (.if_icmp .ne 4, 3) := by decide +kernel
theorem d_Heap_reach_18 : decode b_Heap_reach 18 = .ok (.return_, 1) := by decide +kernel
theorem d_Heap_reach_19 : decode b_Heap_reach 19 = .ok (.aload_n 0, 1) := by decide +kernel
theorem d_Heap_reach_20 : decode b_Heap_reach 20 = .ok (.getfield 24, 3) := by decide +kernel
theorem d_Heap_reach_23 : decode b_Heap_reach 23 = .ok (.iload_n 1, 1) := by decide +kernel
theorem d_Heap_reach_24 : decode b_Heap_reach 24 = .ok (.aload_n 0, 1) := by decide +kernel
theorem d_Heap_reach_25 : decode b_Heap_reach 25 = .ok (.getfield 48, 3) := by decide +kernel
theorem d_Heap_reach_28 : decode b_Heap_reach 28 = .ok (.iastore, 1) := by decide +kernel
theorem d_Heap_reach_29 : decode b_Heap_reach 29 = .ok (.aload_n 0, 1) := by decide +kernel
theorem d_Heap_reach_30 : decode b_Heap_reach 30 = .ok (.getfield 27, 3) := by decide +kernel
theorem d_Heap_reach_33 : decode b_Heap_reach 33 = .ok (.aload_n 0, 1) := by decide +kernel
theorem d_Heap_reach_34 : decode b_Heap_reach 34 = .ok (.getfield 51, 3) := by decide +kernel
theorem d_Heap_reach_37 : decode b_Heap_reach 37 = .ok (.iload_n 1, 1) := by decide +kernel
theorem d_Heap_reach_38 : decode b_Heap_reach 38 = .ok (.iastore, 1) := by decide +kernel
theorem d_Heap_reach_39 : decode b_Heap_reach 39 = .ok (.aload_n 0, 1) := by decide +kernel
theorem d_Heap_reach_40 : decode b_Heap_reach 40 = .ok (.dup, 1) := by decide +kernel
theorem d_Heap_reach_41 : decode b_Heap_reach 41 = .ok (.getfield 51, 3) := by decide +kernel
theorem d_Heap_reach_44 : decode b_Heap_reach 44 = .ok (.iconst 1, 1) := by decide +kernel
theorem d_Heap_reach_45 : decode b_Heap_reach 45 = .ok (.iadd, 1) := by decide +kernel
theorem d_Heap_reach_46 : decode b_Heap_reach 46 = .ok (.putfield 51, 3) := by decide +kernel
theorem d_Heap_reach_49 : decode b_Heap_reach 49 = .ok (.return_, 1) := by decide +kernel
theorem d_Heap_reachFrom_0 : decode b_Heap_reachFrom 0 = .ok (.iload_n 1, 1) := by decide +kernel
theorem d_Heap_reachFrom_1 : decode b_Heap_reachFrom 1 = .ok (.iconst 5, 1) := by decide +kernel
theorem d_Heap_reachFrom_2 : decode b_Heap_reachFrom 2 = .ok (.if_icmp .eq 8, 3) := by decide +kernel
theorem d_Heap_reachFrom_5 : decode b_Heap_reachFrom 5 = .ok (.iload_n 1, 1) := by decide +kernel
theorem d_Heap_reachFrom_6 : decode b_Heap_reachFrom 6 = .ok (.iconst 2, 1) := by decide +kernel
theorem d_Heap_reachFrom_7 : decode b_Heap_reachFrom 7 = .ok (.if_icmp .ne 16, 3) := by decide +kernel
theorem d_Heap_reachFrom_10 : decode b_Heap_reachFrom 10 = .ok (.aload_n 0, 1) := by decide +kernel
theorem d_Heap_reachFrom_11 : decode b_Heap_reachFrom 11 = .ok (.iload_n 2, 1) := by decide +kernel
theorem d_Heap_reachFrom_12 : decode b_Heap_reachFrom 12 = .ok (.invokevirtual 54, 3) := by decide +kernel
theorem d_Heap_reachFrom_15 : decode b_Heap_reachFrom 15 = .ok (.aload_n 0, 1) := by decide +kernel
theorem d_Heap_reachFrom_16 : decode b_Heap_reachFrom 16 = .ok (.iload_n 3, 1) := by decide +kernel
theorem d_Heap_reachFrom_17 : decode b_Heap_reachFrom 17 = .ok (.invokevirtual 54, 3) := by decide +kernel
theorem d_Heap_reachFrom_20 : decode b_Heap_reachFrom 20 = .ok (.goto 18, 3) := by decide +kernel
theorem d_Heap_reachFrom_23 : decode b_Heap_reachFrom 23 = .ok (.iload_n 1, 1) := by decide +kernel
theorem d_Heap_reachFrom_24 : decode b_Heap_reachFrom 24 = .ok (.iconst 3, 1) := by decide +kernel
theorem d_Heap_reachFrom_25 : decode b_Heap_reachFrom 25 = .ok (.if_icmp .eq 8, 3) := by decide +kernel
theorem d_Heap_reachFrom_28 : decode b_Heap_reachFrom 28 = .ok (.iload_n 1, 1) := by decide +kernel
theorem d_Heap_reachFrom_29 : decode b_Heap_reachFrom 29 = .ok (.iconst 1, 1) := by decide +kernel
theorem d_Heap_reachFrom_30 : decode b_Heap_reachFrom 30 = .ok (.if_icmp .ne 8, 3) := by decide +kernel
theorem d_Heap_reachFrom_33 : decode b_Heap_reachFrom 33 = .ok (.aload_n 0, 1) := by decide +kernel
theorem d_Heap_reachFrom_34 : decode b_Heap_reachFrom 34 = .ok (.iload_n 3, 1) := by decide +kernel
theorem d_Heap_reachFrom_35 : decode b_Heap_reachFrom 35 = .ok (.invokevirtual 54, 3) := by decide +kernel
theorem d_Heap_reachFrom_38 : decode b_Heap_reachFrom 38 = .ok (.return_, 1) := by decide +kernel
theorem d_Heap_spreadMarks_0 : decode b_Heap_spreadMarks 0 = .ok (.iconst 0, 1) := by decide +kernel
theorem d_Heap_spreadMarks_1 : decode b_Heap_spreadMarks 1 = .ok (.istore_n 1, 1) := by decide +kernel
theorem d_Heap_spreadMarks_2 : decode b_Heap_spreadMarks 2 = .ok (.iload_n 1, 1) := by decide +kernel
theorem d_Heap_spreadMarks_3 : decode b_Heap_spreadMarks 3 = .ok (.aload_n 0, 1) := by decide +kernel
theorem d_Heap_spreadMarks_4 : decode b_Heap_spreadMarks 4 = .ok (.getfield 51, 3) := by decide +kernel
theorem d_Heap_spreadMarks_7 : decode b_Heap_spreadMarks 7 = .ok (.if_icmp .ge 45, 3) := by decide +kernel
theorem d_Heap_spreadMarks_10 : decode b_Heap_spreadMarks 10 = .ok (.iload_n 1, 1) := by decide +kernel
theorem d_Heap_spreadMarks_11 : decode b_Heap_spreadMarks 11 = .ok (.sipush 256, 3) := by decide +kernel
theorem d_Heap_spreadMarks_14 : decode b_Heap_spreadMarks 14 = .ok (.if_icmp .ge 38, 3) := by decide +kernel
theorem d_Heap_spreadMarks_17 : decode b_Heap_spreadMarks 17 = .ok (.aload_n 0, 1) := by decide +kernel
theorem d_Heap_spreadMarks_18 : decode b_Heap_spreadMarks 18 = .ok (.getfield 27, 3) := by decide +kernel
theorem d_Heap_spreadMarks_21 : decode b_Heap_spreadMarks 21 = .ok (.iload_n 1, 1) := by decide +kernel
theorem d_Heap_spreadMarks_22 : decode b_Heap_spreadMarks 22 = .ok (.iaload, 1) := by decide +kernel
theorem d_Heap_spreadMarks_23 : decode b_Heap_spreadMarks 23 = .ok (.istore_n 2, 1) := by decide +kernel
theorem d_Heap_spreadMarks_24 : decode b_Heap_spreadMarks 24 = .ok (.aload_n 0, 1) := by decide +kernel
theorem d_Heap_spreadMarks_25 : decode b_Heap_spreadMarks 25 = .ok (.aload_n 0, 1) := by decide +kernel
theorem d_Heap_spreadMarks_26 : decode b_Heap_spreadMarks 26 = .ok (.getfield 9, 3) := by decide +kernel
theorem d_Heap_spreadMarks_29 : decode b_Heap_spreadMarks 29 = .ok (.iload_n 2, 1) := by decide +kernel
theorem d_Heap_spreadMarks_30 : decode b_Heap_spreadMarks 30 = .ok (.iaload, 1) := by decide +kernel
theorem d_Heap_spreadMarks_31 : decode b_Heap_spreadMarks 31 = .ok (.aload_n 0, 1) := by decide +kernel
theorem d_Heap_spreadMarks_32 : decode b_Heap_spreadMarks 32 = .ok (.getfield 15, 3) := by decide +kernel
theorem d_Heap_spreadMarks_35 : decode b_Heap_spreadMarks 35 = .ok (.iload_n 2, 1) := by decide +kernel
theorem d_Heap_spreadMarks_36 : decode b_Heap_spreadMarks 36 = .ok (.iaload, 1) := by decide +kernel
theorem d_Heap_spreadMarks_37 : decode b_Heap_spreadMarks 37 = .ok (.aload_n 0, 1) := by decide +kernel
theorem d_Heap_spreadMarks_38 : decode b_Heap_spreadMarks 38 = .ok (.getfield 18, 3) := by decide +kernel
theorem d_Heap_spreadMarks_41 : decode b_Heap_spreadMarks 41 = .ok (.iload_n 2, 1) := by decide +kernel
theorem d_Heap_spreadMarks_42 : decode b_Heap_spreadMarks 42 = .ok (.iaload, 1) := by decide +kernel
theorem d_Heap_spreadMarks_43 : decode b_Heap_spreadMarks 43 = .ok (.invokevirtual 58, 3) := by decide +kernel
theorem d_Heap_spreadMarks_46 : decode b_Heap_spreadMarks 46 = .ok (.iinc 1 1, 3) := by decide +kernel
theorem d_Heap_spreadMarks_49 : decode b_Heap_spreadMarks 49 = .ok (.goto (-47), 3) := by decide +kernel
theorem d_Heap_spreadMarks_52 : decode b_Heap_spreadMarks 52 = .ok (.aload_n 0, 1) := by decide +kernel
theorem d_Heap_spreadMarks_53 : decode b_Heap_spreadMarks 53 = .ok (.getfield 51, 3) := by decide +kernel
theorem d_Heap_spreadMarks_56 : decode b_Heap_spreadMarks 56 = .ok (.ireturn, 1) := by decide +kernel
theorem d_Heap_freeUnreached_0 : decode b_Heap_freeUnreached 0 = .ok (.aload_n 0, 1) := by decide +kernel
theorem d_Heap_freeUnreached_1 : decode b_Heap_freeUnreached 1 = .ok (.iconst 0, 1) := by decide +kernel
theorem d_Heap_freeUnreached_2 : decode b_Heap_freeUnreached 2 = .ok (.putfield 36, 3) := by decide +kernel
theorem d_Heap_freeUnreached_5 : decode b_Heap_freeUnreached 5 = .ok (.iconst 0, 1) := by decide +kernel
theorem d_Heap_freeUnreached_6 : decode b_Heap_freeUnreached 6 = .ok (.istore_n 1, 1) := by decide +kernel
theorem d_Heap_freeUnreached_7 : decode b_Heap_freeUnreached 7 = .ok (.iload_n 1, 1) := by decide +kernel
theorem d_Heap_freeUnreached_8 : decode b_Heap_freeUnreached 8 = .ok (.sipush 256, 3) := by decide +kernel
theorem d_Heap_freeUnreached_11 : decode b_Heap_freeUnreached 11 = .ok (.if_icmp .ge 42, 3) := by decide +kernel
theorem d_Heap_freeUnreached_14 : decode b_Heap_freeUnreached 14 = .ok (.aload_n 0, 1) := by decide +kernel
theorem d_Heap_freeUnreached_15 : decode b_Heap_freeUnreached 15 = .ok (.getfield 24, 3) := by decide +kernel
theorem d_Heap_freeUnreached_18 : decode b_Heap_freeUnreached 18 = .ok (.iload_n 1, 1) := by decide +kernel
theorem d_Heap_freeUnreached_19 : decode b_Heap_freeUnreached 19 = .ok (.iaload, 1) := by decide +kernel
theorem d_Heap_freeUnreached_20 : decode b_Heap_freeUnreached 20 = .ok (.aload_n 0, 1) := by decide +kernel
theorem d_Heap_freeUnreached_21 : decode b_Heap_freeUnreached 21 = .ok (.getfield 48, 3) := by decide +kernel
theorem d_Heap_freeUnreached_24 : decode b_Heap_freeUnreached 24 = .ok (.if_icmp .eq 23, 3) := by decide +kernel
theorem d_Heap_freeUnreached_27 : decode b_Heap_freeUnreached 27 = .ok (.aload_n 0, 1) := by decide +kernel
theorem d_Heap_freeUnreached_28 : decode b_Heap_freeUnreached 28 = .ok (.getfield 21, 3) := by decide +kernel
theorem d_Heap_freeUnreached_31 : decode b_Heap_freeUnreached 31 = .ok (.aload_n 0, 1) := by decide +kernel
theorem d_Heap_freeUnreached_32 : decode b_Heap_freeUnreached 32 = .ok (.getfield 36, 3) := by decide +kernel
theorem d_Heap_freeUnreached_35 : decode b_Heap_freeUnreached 35 = .ok (.iload_n 1, 1) := by decide +kernel
theorem d_Heap_freeUnreached_36 : decode b_Heap_freeUnreached 36 = .ok (.iastore, 1) := by decide +kernel
theorem d_Heap_freeUnreached_37 : decode b_Heap_freeUnreached 37 = .ok (.aload_n 0, 1) := by decide +kernel
theorem d_Heap_freeUnreached_38 : decode b_Heap_freeUnreached 38 = .ok (.dup, 1) := by decide +kernel
theorem d_Heap_freeUnreached_39 : decode b_Heap_freeUnreached 39 = .ok (.getfield 36, 3) := by decide +kernel
theorem d_Heap_freeUnreached_42 : decode b_Heap_freeUnreached 42 = .ok (.iconst 1, 1) := by decide +kernel
theorem d_Heap_freeUnreached_43 : decode b_Heap_freeUnreached 43 = .ok (.iadd, 1) := by decide +kernel
theorem d_Heap_freeUnreached_44 : decode b_Heap_freeUnreached 44 = .ok (.putfield 36, 3) := by decide +kernel
theorem d_Heap_freeUnreached_47 : decode b_Heap_freeUnreached 47 = .ok (.iinc 1 1, 3) := by decide +kernel
theorem d_Heap_freeUnreached_50 : decode b_Heap_freeUnreached 50 = .ok (.goto (-43), 3) := by decide +kernel
theorem d_Heap_freeUnreached_53 : decode b_Heap_freeUnreached 53 = .ok (.return_, 1) := by decide +kernel
theorem d_Heap_empty_0 : decode b_Heap_empty 0 = .ok (.aload_n 0, 1) := by decide +kernel
theorem d_Heap_empty_1 : decode b_Heap_empty 1 = .ok (.invokevirtual 30, 3) := by decide +kernel
theorem d_Heap_empty_4 : decode b_Heap_empty 4 = .ok (.aload_n 0, 1) := by decide +kernel
theorem d_Heap_empty_5 : decode b_Heap_empty 5 = .ok (.invokevirtual 33, 3) := by decide +kernel
theorem d_Heap_empty_8 : decode b_Heap_empty 8 = .ok (.return_, 1) := by decide +kernel
theorem d_Heap_boundTo_0 : decode b_Heap_boundTo 0 = .ok (.iload_n 1, 1) := by decide +kernel
theorem d_Heap_boundTo_1 : decode b_Heap_boundTo 1 = .ok (.istore_n 3, 1) := by decide +kernel
theorem d_Heap_boundTo_2 : decode b_Heap_boundTo 2 = .ok (.iconst 0, 1) := by decide +kernel
theorem d_Heap_boundTo_3 : decode b_Heap_boundTo 3 = .ok (.istore 4, 2) := by decide +kernel
theorem d_Heap_boundTo_5 : decode b_Heap_boundTo 5 = .ok (.iload 4, 2) := by decide +kernel
theorem d_Heap_boundTo_7 : decode b_Heap_boundTo 7 = .ok (.iload_n 2, 1) := by decide +kernel
theorem d_Heap_boundTo_8 : decode b_Heap_boundTo 8 = .ok (.if_icmp .ge 21, 3) := by decide +kernel
theorem d_Heap_boundTo_11 : decode b_Heap_boundTo 11 = .ok (.iload_n 3, 1) := by decide +kernel
theorem d_Heap_boundTo_12 : decode b_Heap_boundTo 12 = .ok (.iconst (-1), 1) := by decide +kernel
theorem d_Heap_boundTo_13 : decode b_Heap_boundTo 13 = .ok (.if_icmp .eq 16, 3) := by decide +kernel
theorem d_Heap_boundTo_16 : decode b_Heap_boundTo 16 = .ok (.aload_n 0, 1) := by decide +kernel
theorem d_Heap_boundTo_17 : decode b_Heap_boundTo 17 = .ok (.getfield 18, 3) := by decide +kernel
theorem d_Heap_boundTo_20 : decode b_Heap_boundTo 20 = .ok (.iload_n 3, 1) := by decide +kernel
theorem d_Heap_boundTo_21 : decode b_Heap_boundTo 21 = .ok (.iaload, 1) := by decide +kernel
theorem d_Heap_boundTo_22 : decode b_Heap_boundTo 22 = .ok (.istore_n 3, 1) := by decide +kernel
theorem d_Heap_boundTo_23 : decode b_Heap_boundTo 23 = .ok (.iinc 4 1, 3) := by decide +kernel
theorem d_Heap_boundTo_26 : decode b_Heap_boundTo 26 = .ok (.goto (-21), 3) := by decide +kernel
theorem d_Heap_boundTo_29 : decode b_Heap_boundTo 29 = .ok (.aload_n 0, 1) := by decide +kernel
theorem d_Heap_boundTo_30 : decode b_Heap_boundTo 30 = .ok (.iload_n 3, 1) := by decide +kernel
theorem d_Heap_boundTo_31 : decode b_Heap_boundTo 31 = .ok (.invokevirtual 44, 3) := by decide +kernel
theorem d_Heap_boundTo_34 : decode b_Heap_boundTo 34 = .ok (.ireturn, 1) := by decide +kernel
